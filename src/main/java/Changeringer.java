import java.util.Arrays;
import java.util.NoSuchElementException;

/** A tower of bells, with its methods, blocks, compositions, ringers, performances and records. */
public final class Changeringer {
    private static final int MOST_BELLS = 8;
    private static final int MOST_CHANGES = 40;
    private static final int MOST_METHODS = 6;
    private static final int CALLS = 3;
    private static final int MOST_KINDS = MOST_METHODS * CALLS;
    private static final int MOST_BLOCKS = 10;
    private static final int MOST_ITEMS = 20;
    private static final int MOST_RUNG = 3000;
    private static final int MOST_PATTERNS = 8;
    private static final int MOST_TRIED = 30000;
    private static final int MOST_RINGERS = 12;
    private static final int MOST_WEIGHT = 9;
    private static final int MOST_PERFORMANCES = 12;
    private static final int MOST_RULES = 10;
    private static final int LAST_DAY = 99999;

    private int bells;
    private int triedAtLast;
    private int performed;
    private final Methods methods;
    private final Blocks blocks;
    private final Touch touch;
    private final RowList list;
    private final Truth truth;
    private final Patterns patterns;
    private final Composer composer;
    private final Ringers ringers;
    private final Performance[] performances;
    private final Rules rules;

    public Changeringer() {
        RowList rows = new RowList();
        bells = 6;
        methods = new Methods();
        blocks = new Blocks();
        touch = new Touch();
        list = rows;
        truth = new Truth(rows);
        patterns = new Patterns();
        composer = new Composer(rows);
        ringers = new Ringers();
        performances = new Performance[MOST_PERFORMANCES];
        for (int number = 0; number < MOST_PERFORMANCES; number++) {
            performances[number] = new Performance();
        }
        rules = new Rules();
        beginAnew();
    }

    public int setBells(int bells) throws IllegalArgumentException {
        if (bells < 4 || bells > MOST_BELLS) {
            throw new IllegalArgumentException("a tower has 4 to 8 bells");
        }
        int before = this.bells;
        this.bells = bells;
        beginAnew();
        return before;
    }

    public int change(int places) throws IllegalArgumentException, IllegalStateException {
        needLawful(places);
        if (methods.buffered >= MOST_CHANGES) {
            throw new IllegalStateException("the buffer is full");
        }
        return methods.putChange(places);
    }

    public int method() throws UnsupportedOperationException, IllegalStateException {
        if (methods.buffered == 0) {
            throw new UnsupportedOperationException("the buffer is empty");
        }
        if (methods.count >= MOST_METHODS) {
            throw new IllegalStateException("there are 6 methods");
        }
        return methods.makeOfBuffer();
    }

    public int setCall(int method, char call, int at, int places)
            throws IndexOutOfBoundsException, IllegalArgumentException {
        needMethod(method);
        if (at < 0 || at >= methods.sizes[method]) {
            throw new IndexOutOfBoundsException("no such change");
        }
        int called = callOf(call);
        if (called == 0) {
            throw new IllegalArgumentException("the plain lead is no call");
        }
        needLawful(places);
        return methods.tellCall(CALLS * method + called, at, places);
    }

    public char kindOf(int method) throws IndexOutOfBoundsException {
        needMethod(method);
        return methods.sortOf(method);
    }

    public boolean isEven(int method) throws IndexOutOfBoundsException {
        needMethod(method);
        return methods.isSameBackward(method);
    }

    public int leads(int method) throws IndexOutOfBoundsException {
        needMethod(method);
        return Row.order(methods.made[CALLS * method]);
    }

    public int rings(int method) throws IndexOutOfBoundsException {
        needMethod(method);
        return Row.cycles(methods.made[CALLS * method]);
    }

    public int brings(int method, char call, int place) throws IndexOutOfBoundsException, IllegalArgumentException {
        needMethod(method);
        needPlace(place);
        int kind = CALLS * method + callOf(call);
        return Row.place(methods.made[kind], place - 1) + 1;
    }

    public int block() throws IllegalStateException {
        if (blocks.count >= MOST_BLOCKS) {
            throw new IllegalStateException("there are 10 blocks");
        }
        return blocks.add();
    }

    public int lead(int block, int method, char call)
            throws IndexOutOfBoundsException, IllegalArgumentException, IllegalStateException {
        needBlock(block);
        needMethod(method);
        int kind = CALLS * method + callOf(call);
        needRoom(block);
        return blocks.put(block, kind, 0);
    }

    public int again(int block, int other, int times)
            throws IndexOutOfBoundsException, IllegalArgumentException, IllegalStateException {
        needBlock(block);
        needBlock(other);
        if (other >= block || times < 1 || times > 20) {
            throw new IllegalArgumentException("a lower block, 1 to 20 times");
        }
        needRoom(block);
        return blocks.put(block, other, times);
    }

    public long length(int block) throws IndexOutOfBoundsException {
        needBlock(block);
        return blocks.lengthOf(block, methods);
    }

    public int bellAt(int block, int row, int place) throws IndexOutOfBoundsException, UnsupportedOperationException {
        needBlock(block);
        needPlace(place);
        ringOf(block);
        if (row < 0 || row > touch.length) {
            throw new IndexOutOfBoundsException("no such row");
        }
        return Row.bell(touch.rows[row], place - 1) + 1;
    }

    public boolean comesRound(int block) throws IndexOutOfBoundsException, UnsupportedOperationException {
        needBlock(block);
        ringOf(block);
        return touch.endsInRounds();
    }

    public boolean isTrue(int block, int way)
            throws IndexOutOfBoundsException, IllegalArgumentException, UnsupportedOperationException {
        needBlock(block);
        if (way < 1 || way > 3) {
            throw new IllegalArgumentException("no such proof");
        }
        ringOf(block);
        return truth.proves(way, touch, methods);
    }

    public int firstFalse(int block)
            throws IndexOutOfBoundsException, UnsupportedOperationException, NoSuchElementException {
        needBlock(block);
        ringOf(block);
        int row = truth.firstRepeat(touch);
        if (row < 0) {
            throw new NoSuchElementException("the block is true");
        }
        return row;
    }

    public int falseHeads(int method, char call, int other, char otherCall)
            throws IndexOutOfBoundsException, IllegalArgumentException {
        needMethod(method);
        needMethod(other);
        int kind = CALLS * method + callOf(call);
        int otherKind = CALLS * other + callOf(otherCall);
        return truth.headsBetween(kind, otherKind, methods);
    }

    public int level(int block) throws IndexOutOfBoundsException, UnsupportedOperationException {
        needBlock(block);
        ringOf(block);
        return truth.mostOften(touch);
    }

    public boolean isLawful(int block) throws IndexOutOfBoundsException, UnsupportedOperationException {
        needBlock(block);
        ringOf(block);
        return truth.allowsAsLawful(touch);
    }

    public int changesOfMethod(int block) throws IndexOutOfBoundsException, UnsupportedOperationException {
        needBlock(block);
        ringOf(block);
        return touch.splices();
    }

    public int work(int block, int method) throws IndexOutOfBoundsException, UnsupportedOperationException {
        needBlock(block);
        needMethod(method);
        ringOf(block);
        return touch.pairsAtHeads(method, bells, methods.sortOf(method) == 'l' ? 0 : 1);
    }

    public int struck(int block, int bell) throws IndexOutOfBoundsException, UnsupportedOperationException {
        needBlock(block);
        needPlace(bell);
        ringOf(block);
        return touch.strikes(bell - 1, methods);
    }

    public int wish(int bell) throws IllegalArgumentException, IllegalStateException {
        if (bell < 0 || bell > bells || patterns.isTold(bell)) {
            throw new IllegalArgumentException("no such bell, or it was told already");
        }
        if (patterns.told >= bells) {
            throw new IllegalStateException("all places are told");
        }
        return patterns.tellNext(bell);
    }

    public int pattern() throws IllegalStateException {
        if (patterns.count >= MOST_PATTERNS) {
            throw new IllegalStateException("there are 8 patterns");
        }
        return patterns.makeOfTold();
    }

    public int music(int block, int pattern, char stroke)
            throws IndexOutOfBoundsException, IllegalArgumentException, UnsupportedOperationException {
        needBlock(block);
        if (pattern < 0 || pattern >= patterns.count) {
            throw new IndexOutOfBoundsException("no such pattern");
        }
        if (stroke != 'h' && stroke != 'b' && stroke != 'a') {
            throw new IllegalArgumentException("no such stroke");
        }
        ringOf(block);
        return patterns.rowsLike(pattern, touch, stroke != 'b', stroke != 'h');
    }

    public int seek(int method, int leads, int calls, int times)
            throws IndexOutOfBoundsException, IllegalArgumentException, IllegalStateException,
            UnsupportedOperationException, NoSuchElementException {
        needMethod(method);
        needComposition(leads, 20, calls);
        if (times < 1 || times > 6) {
            throw new IllegalArgumentException("1 to 6 times");
        }
        if (blocks.count + (times > 1 ? 2 : 1) > MOST_BLOCKS) {
            throw new IllegalStateException("there would be more than 10 blocks");
        }
        if (leads * times * methods.sizes[method] > MOST_RUNG) {
            throw new UnsupportedOperationException("the whole would be too long");
        }
        long found = compose(method, leads, calls, times, true);
        if (found == 0) {
            throw new NoSuchElementException("no such composition");
        }
        triedAtLast = composer.tries;
        return addComposition(method, leads, times);
    }

    public int tried() {
        return triedAtLast;
    }

    public long count(int method, int leads, int calls)
            throws IndexOutOfBoundsException, IllegalArgumentException, UnsupportedOperationException {
        needMethod(method);
        needComposition(leads, 12, calls);
        if (leads * methods.sizes[method] > MOST_RUNG) {
            throw new UnsupportedOperationException("the whole would be too long");
        }
        return compose(method, leads, calls, 1, false);
    }

    public int ringer(int strength, int slack, int memory) throws IllegalArgumentException, IllegalStateException {
        if (strength < 1 || strength > 9 || slack < 0 || slack > 30 || memory < 2 || memory > 99) {
            throw new IllegalArgumentException("a number is out of range");
        }
        if (ringers.count >= MOST_RINGERS) {
            throw new IllegalStateException("there are 12 ringers");
        }
        return ringers.add(strength, slack, memory);
    }

    public boolean learn(int ringer, int method, boolean is) throws IndexOutOfBoundsException {
        needRinger(ringer);
        needMethod(method);
        return ringers.setKnown(ringer, method, is);
    }

    public int setWeight(int bell, int weight) throws IndexOutOfBoundsException, IllegalArgumentException {
        needPlace(bell);
        if (weight < 1 || weight > MOST_WEIGHT) {
            throw new IllegalArgumentException("a weight is 1 to 9");
        }
        int before = ringers.weights[bell - 1];
        ringers.weights[bell - 1] = weight;
        return before;
    }

    public int setConductor(int ringer) throws IndexOutOfBoundsException {
        needRinger(ringer);
        int before = ringers.conductor;
        ringers.conductor = ringer;
        return before;
    }

    public int ringerFor(int block, int bell) throws IndexOutOfBoundsException, NoSuchElementException {
        needBlock(block);
        needPlace(bell);
        chooseBand(block);
        return ringers.band[bell - 1];
    }

    public long bands(int block) throws IndexOutOfBoundsException {
        needBlock(block);
        return ringers.ways(blocks.methodsOf(block), 0, 0);
    }

    public int perform(int block, int seed)
            throws IndexOutOfBoundsException, IllegalArgumentException, UnsupportedOperationException,
            NoSuchElementException, IllegalStateException {
        needBlock(block);
        if (seed < 0 || seed > 99999) {
            throw new IllegalArgumentException("a seed is 0 to 99999");
        }
        ringOf(block);
        if (!touch.endsInRounds()) {
            throw new UnsupportedOperationException("the block does not come round");
        }
        chooseBand(block);
        if (performed >= MOST_PERFORMANCES || performances[performed] == null) {
            throw new IllegalStateException("there are 12 performances");
        }
        Performance performance = performances[performed];
        performance.ringAll(touch, ringers, seed);
        performance.judge(truth, touch);
        performed++;
        return performed - 1;
    }

    public int rungAt(int performance, int row, int place) throws IndexOutOfBoundsException {
        Performance told = performanceOf(performance);
        needPlace(place);
        if (row < 0 || row > told.length) {
            throw new IndexOutOfBoundsException("no such row");
        }
        return Row.bell(told.rows[row], place - 1) + 1;
    }

    public int tell(int performance, char what) throws IndexOutOfBoundsException, IllegalArgumentException {
        Performance told = performanceOf(performance);
        if (what == 'l') {
            return told.length;
        }
        if (what == 's') {
            return told.slips;
        }
        if (what == 'm') {
            return told.mended;
        }
        if (what == 'f') {
            return told.repeats;
        }
        if (what == 'h') {
            return told.heard;
        }
        if (what == 'r') {
            return told.endsInRounds() ? 1 : 0;
        }
        throw new IllegalArgumentException("nothing such is told");
    }

    public double meanError(int performance) throws IndexOutOfBoundsException, ArithmeticException {
        Performance told = performanceOf(performance);
        int blows = told.length * bells;
        if (blows == 0) {
            throw new ArithmeticException("no changes were rung");
        }
        return (double) told.errors / (double) blows;
    }

    public int rule(int day, int least, int slips, boolean isAllowed)
            throws IllegalArgumentException, IllegalStateException {
        if (day < 0 || day > LAST_DAY || least < 0 || least > 9999 || slips < 0 || slips > 99) {
            throw new IllegalArgumentException("a number is out of range");
        }
        if (rules.count >= MOST_RULES) {
            throw new IllegalStateException("there are 10 rules");
        }
        return rules.add(day, least, slips, isAllowed);
    }

    public int handIn(int performance, int day) throws IndexOutOfBoundsException, IllegalArgumentException {
        Performance told = performanceOf(performance);
        if (day < 0 || day > LAST_DAY) {
            throw new IllegalArgumentException("no such day");
        }
        int before = told.day;
        told.day = day;
        return before;
    }

    public boolean counts(int performance) throws IndexOutOfBoundsException {
        return rules.allow(performanceOf(performance));
    }

    public int record(int day) throws NoSuchElementException {
        int best = -1;
        for (int number = 0; number < performed; number++) {
            Performance told = performanceOf(number);
            if (told.day <= day && rules.allow(told) && (best < 0 || told.isBetterThan(performanceOf(best)))) {
                best = number;
            }
        }
        if (best < 0) {
            throw new NoSuchElementException("no performance counts by this day");
        }
        return best;
    }

    public float mendedShare() throws ArithmeticException {
        int right = 0;
        for (int number = 0; number < performed; number++) {
            if (performanceOf(number).isAllMended()) {
                right++;
            }
        }
        if (performed == 0) {
            throw new ArithmeticException("there are no performances");
        }
        return (float) right / (float) performed;
    }

    public long checksum(int block) throws IndexOutOfBoundsException, UnsupportedOperationException {
        needBlock(block);
        ringOf(block);
        return list.sumOf(touch);
    }

    public boolean isSound() {
        for (int block = 0; block < blocks.count; block++) {
            if (canBeRung(block)) {
                touch.ring(block, blocks, methods);
                if (!truth.isOfOneMind(touch, methods)) {
                    return false;
                }
            }
        }
        for (int number = 0; number < performed; number++) {
            if (!performanceOf(number).isSoundItself()) {
                return false;
            }
        }
        return true;
    }

    private void beginAnew() {
        triedAtLast = 0;
        performed = 0;
        methods.clear(bells);
        blocks.count = 0;
        list.clear(bells);
        patterns.clear();
        ringers.clear(bells);
        rules.count = 0;
    }

    private void needLawful(int places) {
        if (Row.lowerOf(places, bells) == 0) {
            throw new IllegalArgumentException("the change is not lawful");
        }
    }

    private void needMethod(int method) {
        if (method < 0 || method >= methods.count) {
            throw new IndexOutOfBoundsException("no such method");
        }
    }

    private void needBlock(int block) {
        if (block < 0 || block >= blocks.count) {
            throw new IndexOutOfBoundsException("no such block");
        }
    }

    private void needRinger(int ringer) {
        if (ringer < 0 || ringer >= ringers.count) {
            throw new IndexOutOfBoundsException("no such ringer");
        }
    }

    /** Bells are numbered as places are, so this serves for both. */
    private void needPlace(int place) {
        if (place < 1 || place > bells) {
            throw new IndexOutOfBoundsException("no such place or bell");
        }
    }

    private void needRoom(int block) {
        if (blocks.sizes[block] >= MOST_ITEMS) {
            throw new IllegalStateException("the block has 20 items");
        }
    }

    private static void needComposition(int leads, int most, int calls) {
        if (leads < 1 || leads > most || calls < 1 || calls > CALLS) {
            throw new IllegalArgumentException("a number is out of range");
        }
    }

    private static int callOf(char call) {
        if (call == 'p') {
            return 0;
        }
        if (call == 'b') {
            return 1;
        }
        if (call == 's') {
            return 2;
        }
        throw new IllegalArgumentException("no such call");
    }

    private boolean canBeRung(int block) {
        return blocks.lengthOf(block, methods) <= MOST_RUNG;
    }

    private void ringOf(int block) {
        if (!canBeRung(block)) {
            throw new UnsupportedOperationException("the block is too long to be rung");
        }
        touch.ring(block, blocks, methods);
    }

    private void chooseBand(int block) {
        if (!ringers.chooseFirst(blocks.methodsOf(block))) {
            throw new NoSuchElementException("there is no band");
        }
    }

    private Performance performanceOf(int number) {
        if (number < 0 || number >= performed || performances[number] == null) {
            throw new IndexOutOfBoundsException("no such performance");
        }
        return performances[number];
    }

    private long compose(int method, int leads, int calls, int times, boolean isFirstEnough) {
        composer.ask(method, leads, calls, times);
        long found = composer.look(methods, isFirstEnough);
        if (found < 0) {
            throw new UnsupportedOperationException("more leads would be tried");
        }
        return found;
    }

    private int addComposition(int method, int leads, int times) {
        int part = blocks.add();
        for (int lead = 0; lead < leads; lead++) {
            blocks.put(part, CALLS * method + composer.calls[lead], 0);
        }
        if (times == 1) {
            return part;
        }
        int whole = blocks.add();
        blocks.put(whole, part, times);
        return whole;
    }

    /**
     * Rows, each in one int: three bits a place, bells and places from 0, the first place lowest.
     * Places beyond the bells of the tower keep the bells of their own numbers, so that no index is ever above 7.
     */
    private static final class Row {
        static final int ROUNDS = 076543210;

        static int bell(int row, int place) {
            return row >> 3 * place & 7;
        }

        static int place(int row, int bell) {
            int place = 0;
            while (place < MOST_BELLS - 1 && (row >> 3 * place & 7) != bell) {
                place++;
            }
            return place;
        }

        /** The bits of the lower place of each two that change places; 0 if the change is not lawful. */
        static int lowerOf(int places, int bells) {
            if (places < 0 || places >> bells != 0) {
                return 0;
            }
            int lower = 0;
            int place = 0;
            while (place < bells) {
                if ((places >> place & 1) == 1) {
                    place++;
                } else if (place + 1 < bells && (places >> place + 1 & 1) == 0) {
                    lower |= 7 << 3 * place;
                    place += 2;
                } else {
                    return 0;
                }
            }
            return lower;
        }

        static int changed(int row, int lower) {
            int upper = lower << 3;
            return row & ~(lower | upper) | (row & lower) << 3 | (row & upper) >> 3;
        }

        /** The row that comes of a row by what makes another one of rounds. */
        static int then(int row, int made) {
            int next = 0;
            for (int place = 0; place < MOST_BELLS; place++) {
                next |= (row >> 3 * (made >> 3 * place & 7) & 7) << 3 * place;
            }
            return next;
        }

        static int inverse(int row) {
            int inverse = 0;
            for (int place = 0; place < MOST_BELLS; place++) {
                inverse |= place << 3 * (row >> 3 * place & 7);
            }
            return inverse;
        }

        static int order(int made) {
            int order = 1;
            int row = made;
            // no order of eight bells takes more than 15 times to come round
            while (row != ROUNDS && order < 100) {
                row = then(row, made);
                order++;
            }
            return order;
        }

        static int cycles(int made) {
            int cycles = 0;
            int seen = 0;
            for (int first = 0; first < MOST_BELLS; first++) {
                int bell = first;
                int length = 0;
                while ((seen >> bell & 1) == 0 && length < MOST_BELLS) {
                    seen |= 1 << bell;
                    bell = bell(made, bell);
                    length++;
                }
                if (length > 1) {
                    cycles++;
                }
            }
            return cycles;
        }
    }

    /** The methods, and the kinds of leads: three to a method, plain, with a bob, with a single. */
    private static final class Methods {
        private int bells;
        private int buffered;
        private int count;
        private final int[] buffer = new int[MOST_CHANGES];
        private final int[] sizes = new int[MOST_METHODS];
        private final int[][] changes = new int[MOST_METHODS][MOST_CHANGES];
        private final int[] calledAt = new int[MOST_KINDS];
        private final int[] calledPlaces = new int[MOST_KINDS];
        private final int[][] lowers = new int[MOST_KINDS][MOST_CHANGES];
        /** The row that a lead of each kind makes of rounds. */
        private final int[] made = new int[MOST_KINDS];
        private final int[] path = new int[MOST_CHANGES];

        void clear(int bells) {
            this.bells = bells;
            buffered = 0;
            count = 0;
        }

        int putChange(int places) {
            buffer[buffered] = places;
            buffered++;
            return buffered;
        }

        int makeOfBuffer() {
            int method = count;
            for (int at = 0; at < buffered; at++) {
                changes[method][at] = buffer[at];
            }
            sizes[method] = buffered;
            for (int kind = CALLS * method; kind < CALLS * method + CALLS; kind++) {
                calledAt[kind] = -1;
                remake(kind);
            }
            buffered = 0;
            count++;
            return method;
        }

        int tellCall(int kind, int at, int places) {
            int before = placesAt(kind, at);
            calledAt[kind] = at;
            calledPlaces[kind] = places;
            remake(kind);
            return before;
        }

        int sizeOf(int kind) {
            return sizes[kind / CALLS];
        }

        private int placesAt(int kind, int at) {
            return calledAt[kind] == at ? calledPlaces[kind] : changes[kind / CALLS][at];
        }

        private void remake(int kind) {
            int row = Row.ROUNDS;
            for (int at = 0; at < sizeOf(kind); at++) {
                lowers[kind][at] = Row.lowerOf(placesAt(kind, at), bells);
                row = Row.changed(row, lowers[kind][at]);
            }
            made[kind] = row;
        }

        char sortOf(int method) {
            int plain = CALLS * method;
            if (Row.place(made[plain], 0) != 0) {
                return 'l';
            }
            int row = Row.ROUNDS;
            for (int at = 0; at < sizes[method]; at++) {
                path[at] = Row.place(row, 0);
                row = Row.changed(row, lowers[plain][at]);
            }
            if (isHunt(sizes[method])) {
                return 'h';
            }
            return isMirrored(path, sizes[method]) ? 't' : 'a';
        }

        private boolean isHunt(int size) {
            if (size != 2 * bells) {
                return false;
            }
            for (int at = 0; at < size; at++) {
                if (path[at] != (at < bells ? at : size - 1 - at)) {
                    return false;
                }
            }
            return true;
        }

        boolean isSameBackward(int method) {
            return isMirrored(changes[method], sizes[method] - 1);
        }

        private static boolean isMirrored(int[] numbers, int size) {
            for (int at = 0; at < size / 2; at++) {
                if (numbers[at] != numbers[size - 1 - at]) {
                    return false;
                }
            }
            return true;
        }
    }

    /** The blocks as they were told: an item is a kind of lead, or a lower block so many times. */
    private static final class Blocks {
        private static final long LONGEST_TOLD = 1000000000L;

        private int count;
        private final int[] sizes = new int[MOST_BLOCKS];
        private final int[][] what = new int[MOST_BLOCKS][MOST_ITEMS];
        /** 0 for a lead. */
        private final int[][] times = new int[MOST_BLOCKS][MOST_ITEMS];
        private final long[] lengths = new long[MOST_BLOCKS];
        private final int[] known = new int[MOST_BLOCKS];

        int add() {
            sizes[count] = 0;
            count++;
            return count - 1;
        }

        int put(int block, int item, int howOften) {
            what[block][sizes[block]] = item;
            times[block][sizes[block]] = howOften;
            sizes[block]++;
            return sizes[block];
        }

        /** Blocks have only lower ones in them, so that lengths are found by rising numbers. */
        long lengthOf(int block, Methods methods) {
            for (int lower = 0; lower <= block; lower++) {
                long length = 0;
                for (int item = 0; item < sizes[lower]; item++) {
                    int part = what[lower][item];
                    int howOften = times[lower][item];
                    length += howOften == 0 ? methods.sizeOf(part) : howOften * lengths[part];
                }
                lengths[lower] = Math.min(length, LONGEST_TOLD);
            }
            return lengths[block];
        }

        /** A bit for each method that has a lead in the block. */
        int methodsOf(int block) {
            for (int lower = 0; lower <= block; lower++) {
                int set = 0;
                for (int item = 0; item < sizes[lower]; item++) {
                    int part = what[lower][item];
                    set |= times[lower][item] == 0 ? 1 << part / CALLS : known[part];
                }
                known[lower] = set;
            }
            return known[block];
        }
    }

    /** A block as it is rung by the calls of now: its leads, and all of its rows. */
    private static final class Touch {
        private int length;
        private int leads;
        private final int[] rows = new int[MOST_RUNG + 1];
        private final int[] kinds = new int[MOST_RUNG];
        private final int[] heads = new int[MOST_RUNG];
        private final int[] open = new int[MOST_BLOCKS];
        private final int[] nextItem = new int[MOST_BLOCKS];
        private final int[] timesLeft = new int[MOST_BLOCKS];

        /** The block must be short enough, and its lengths found. */
        void ring(int block, Blocks blocks, Methods methods) {
            rows[0] = Row.ROUNDS;
            length = 0;
            leads = 0;
            open[0] = block;
            nextItem[0] = 0;
            timesLeft[0] = 1;
            int depth = 0;
            for (int step = 0; step < 1000000 && depth >= 0; step++) {
                int within = open[depth];
                int item = nextItem[depth];
                nextItem[depth]++;
                if (item >= blocks.sizes[within]) {
                    nextItem[depth] = 0;
                    timesLeft[depth]--;
                    depth = timesLeft[depth] > 0 ? depth : depth - 1;
                } else if (blocks.times[within][item] == 0) {
                    ringLead(blocks.what[within][item], methods);
                } else if (blocks.lengths[blocks.what[within][item]] > 0 && depth + 1 < MOST_BLOCKS) {
                    // blocks without changes are passed over, as they may stand in each other without number
                    depth++;
                    open[depth] = blocks.what[within][item];
                    nextItem[depth] = 0;
                    timesLeft[depth] = blocks.times[within][item];
                }
            }
        }

        private void ringLead(int kind, Methods methods) {
            int size = methods.sizeOf(kind);
            if (leads >= MOST_RUNG || length + size > MOST_RUNG) {
                return;
            }
            kinds[leads] = kind;
            heads[leads] = rows[length];
            leads++;
            for (int at = 0; at < size; at++) {
                rows[length + 1] = Row.changed(rows[length], methods.lowers[kind][at]);
                length++;
            }
        }

        boolean endsInRounds() {
            return rows[length] == Row.ROUNDS;
        }

        int splices() {
            int splices = 0;
            for (int lead = 1; lead < leads; lead++) {
                if (kinds[lead] / CALLS != kinds[lead - 1] / CALLS) {
                    splices++;
                }
            }
            return splices;
        }

        int pairsAtHeads(int method, int bells, int firstBell) {
            long pairs = 0;
            for (int lead = 0; lead < leads; lead++) {
                if (kinds[lead] / CALLS == method) {
                    for (int bell = firstBell; bell < bells; bell++) {
                        pairs |= 1L << MOST_BELLS * bell + Row.place(heads[lead], bell);
                    }
                }
            }
            return Long.bitCount(pairs);
        }

        int strikes(int bell, Methods methods) {
            int strikes = 0;
            for (int lead = 0; lead < leads; lead++) {
                int called = kinds[lead];
                int plain = called - called % CALLS;
                int place = Row.place(heads[lead], bell);
                if (Row.place(methods.made[called], place) != Row.place(methods.made[plain], place)) {
                    strikes++;
                }
            }
            return strikes;
        }
    }

    /** The list of all rows, with a mark for each time that a row came. Who marks takes older marks back first. */
    private static final class RowList {
        private static final int MOST_ROWS = 40320;

        private int bells;
        /** How many rows of these bells there are. */
        private int all;
        private int size;
        /** How many rows are marked. */
        private int distinct;
        private final int[] marks = new int[MOST_ROWS];
        /** The places that were marked, in their order, so that marks can be taken back. */
        private final int[] trail = new int[MOST_RUNG];

        void clear(int bells) {
            this.bells = bells;
            all = 1;
            for (int bell = 2; bell <= bells; bell++) {
                all *= bell;
            }
        }

        /** The place in the list, from 0: by how many bells that are left are lower than that of each place. */
        int placeOf(int row) {
            int place = 0;
            int left = (1 << bells) - 1;
            for (int at = 0; at < bells; at++) {
                int bell = 1 << (row >> 3 * at & 7);
                place = place * (bells - at) + Integer.bitCount(left & bell - 1);
                left &= ~bell;
            }
            return place;
        }

        /** Marks a row, and answers how many marks it has. */
        int mark(int row) {
            int place = placeOf(row);
            if (place < 0 || place >= marks.length || size >= trail.length) {
                return 0;
            }
            trail[size] = place;
            size++;
            marks[place]++;
            if (marks[place] == 1) {
                distinct++;
            }
            return marks[place];
        }

        boolean isMarked(int row) {
            int place = placeOf(row);
            return place >= 0 && place < marks.length && marks[place] > 0;
        }

        void backTo(int earlier) {
            while (size > earlier && size > 0) {
                size--;
                int place = trail[size];
                marks[place]--;
                if (marks[place] == 0) {
                    distinct--;
                }
            }
        }

        int leastMarks() {
            if (distinct < all) {
                return 0;
            }
            int least = marks[0];
            for (int place = 1; place < all; place++) {
                least = Math.min(least, marks[place]);
            }
            return least;
        }

        long sumOf(Touch touch) {
            long sum = 0;
            for (int row = 0; row <= touch.length; row++) {
                sum = 31 * sum + placeOf(touch.rows[row]);
            }
            return sum;
        }
    }

    /** The proofs. */
    private static final class Truth {
        private static final int GROUPS = 64;

        private final RowList list;
        private final int[] inverses = new int[MOST_CHANGES];
        /** Where each group begins among the members, and, last, where the last one ends. */
        private final int[] from = new int[GROUPS + 1];
        private final int[] filled = new int[GROUPS];
        private final int[] members = new int[MOST_RUNG];

        Truth(RowList list) {
            this.list = list;
        }

        boolean proves(int way, Touch touch, Methods methods) {
            if (way == 1) {
                return isTrueByPairs(touch);
            }
            return way == 2 ? isTrueByLeads(touch, methods) : firstRepeat(touch) < 0;
        }

        /** Puts the indexes of keys into groups by the lowest six bits of these, each group by rising indexes. */
        private void group(int[] keys, int size) {
            Arrays.fill(from, 0);
            Arrays.fill(filled, 0);
            for (int index = 0; index < size; index++) {
                from[(keys[index] & GROUPS - 1) + 1]++;
            }
            for (int key = 0; key < GROUPS; key++) {
                from[key + 1] += from[key];
            }
            for (int index = 0; index < size; index++) {
                int key = keys[index] & GROUPS - 1;
                members[from[key] + filled[key]] = index;
                filled[key]++;
            }
        }

        /** Rows with other bells in the first two places are not alike: only the pairs of a group are looked at. */
        private boolean isTrueByPairs(Touch touch) {
            group(touch.rows, touch.length);
            for (int key = 0; key < GROUPS; key++) {
                for (int one = from[key]; one < from[key + 1]; one++) {
                    for (int other = from[key]; other < one; other++) {
                        if (touch.rows[members[one]] == touch.rows[members[other]]) {
                            return false;
                        }
                    }
                }
            }
            return true;
        }

        private boolean isTrueByLeads(Touch touch, Methods methods) {
            group(touch.kinds, touch.leads);
            for (int one = 0; one < MOST_KINDS; one++) {
                if (filled[one] > 0) {
                    if (isFalseInItself(one, methods)) {
                        return false;
                    }
                    for (int other = 0; other <= one; other++) {
                        if (filled[other] > 0 && areFalse(one, other, touch, methods)) {
                            return false;
                        }
                    }
                }
            }
            return true;
        }

        private boolean isFalseInItself(int kind, Methods methods) {
            list.backTo(0);
            int row = Row.ROUNDS;
            for (int at = 0; at < methods.sizeOf(kind); at++) {
                list.mark(row);
                row = Row.changed(row, methods.lowers[kind][at]);
            }
            return list.distinct < methods.sizeOf(kind);
        }

        /** Whether two leads of these kinds in the touch are false against each other. */
        private boolean areFalse(int kind, int otherKind, Touch touch, Methods methods) {
            markHeads(kind, otherKind, methods);
            for (int one = from[kind]; one < from[kind + 1]; one++) {
                int placesOfBells = Row.inverse(touch.heads[members[one]]);
                int end = kind == otherKind ? one : from[otherKind + 1];
                for (int other = from[otherKind]; other < end; other++) {
                    if (list.isMarked(Row.then(placesOfBells, touch.heads[members[other]]))) {
                        return true;
                    }
                }
            }
            return false;
        }

        int headsBetween(int kind, int otherKind, Methods methods) {
            markHeads(kind, otherKind, methods);
            return list.distinct;
        }

        /** Marks the heads of leads of the other kind that are false against one of the first kind from rounds. */
        private void markHeads(int kind, int otherKind, Methods methods) {
            list.backTo(0);
            int row = Row.ROUNDS;
            for (int at = 0; at < methods.sizeOf(otherKind); at++) {
                inverses[at] = Row.inverse(row);
                row = Row.changed(row, methods.lowers[otherKind][at]);
            }
            row = Row.ROUNDS;
            for (int at = 0; at < methods.sizeOf(kind); at++) {
                for (int otherAt = 0; otherAt < methods.sizeOf(otherKind); otherAt++) {
                    list.mark(Row.then(row, inverses[otherAt]));
                }
                row = Row.changed(row, methods.lowers[kind][at]);
            }
        }

        /** The first row that is like one ahead of it, or -1. */
        int firstRepeat(Touch touch) {
            list.backTo(0);
            for (int row = 0; row < touch.length; row++) {
                if (list.mark(touch.rows[row]) > 1) {
                    return row;
                }
            }
            return -1;
        }

        int mostOften(Touch touch) {
            return markAll(touch.rows, touch.length);
        }

        boolean allowsAsLawful(Touch touch) {
            int most = markAll(touch.rows, touch.length);
            return touch.endsInRounds() && most - list.leastMarks() <= 1;
        }

        int repeatsIn(int[] rows, int length) {
            markAll(rows, length);
            return length - list.distinct;
        }

        private int markAll(int[] rows, int length) {
            list.backTo(0);
            int most = 0;
            for (int row = 0; row < length; row++) {
                most = Math.max(most, list.mark(rows[row]));
            }
            return most;
        }

        boolean isOfOneMind(Touch touch, Methods methods) {
            boolean isTrue = isTrueByPairs(touch);
            if (isTrueByLeads(touch, methods) != isTrue || firstRepeat(touch) < 0 != isTrue) {
                return false;
            }
            return touch.length == 0 || mostOften(touch) == 1 == isTrue;
        }
    }

    /** Patterns, each as the bits of the places that are told, and what they are to be. */
    private static final class Patterns {
        private int told;
        private int toldBits;
        private int toldBells;
        private int count;
        private final int[] bits = new int[MOST_PATTERNS];
        private final int[] rows = new int[MOST_PATTERNS];

        void clear() {
            count = 0;
            forget();
        }

        private void forget() {
            told = 0;
            toldBits = 0;
            toldBells = 0;
        }

        boolean isTold(int bell) {
            for (int place = 0; place < told; place++) {
                if (bell > 0 && Row.bell(toldBits, place) != 0 && Row.bell(toldBells, place) == bell - 1) {
                    return true;
                }
            }
            return false;
        }

        int tellNext(int bell) {
            if (bell > 0) {
                toldBits |= 7 << 3 * told;
                toldBells |= bell - 1 << 3 * told;
            }
            told++;
            return told;
        }

        int makeOfTold() {
            bits[count] = toldBits;
            rows[count] = toldBells;
            forget();
            count++;
            return count - 1;
        }

        int rowsLike(int pattern, Touch touch, boolean isHand, boolean isBack) {
            int like = 0;
            for (int row = 1; row <= touch.length; row++) {
                boolean isAsked = row % 2 == 1 ? isHand : isBack;
                if (isAsked && (touch.rows[row] & bits[pattern]) == rows[pattern]) {
                    like++;
                }
            }
            return like;
        }
    }

    /** Looks through rows of leads in the order of their calls, each lead gone on from as long as it is not false. */
    private static final class Composer {
        private final RowList list;
        private int method;
        private int leads;
        private int allowed;
        private int times;
        private int tries;
        private final int[] calls = new int[MOST_ITEMS];
        private final int[] heads = new int[MOST_ITEMS + 1];
        private final int[] markedAhead = new int[MOST_ITEMS];

        Composer(RowList list) {
            this.list = list;
        }

        void ask(int method, int leads, int allowed, int times) {
            this.method = method;
            this.leads = leads;
            this.allowed = allowed;
            this.times = times;
        }

        /** How many compositions there are, or -1 if too many leads would be tried. */
        long look(Methods methods, boolean isFirstEnough) {
            long found = 0;
            int at = 0;
            list.backTo(0);
            tries = 0;
            heads[0] = Row.ROUNDS;
            calls[0] = -1;
            // a lead is tried or gone back from in each step
            for (int step = 0; step <= 3 * MOST_TRIED && at >= 0; step++) {
                list.backTo(at == 0 ? 0 : markedAhead[at]);
                calls[at]++;
                if (calls[at] >= allowed) {
                    at--;
                    continue;
                }
                if (tries >= MOST_TRIED) {
                    found = -1;
                    break;
                }
                tries++;
                if (!isPut(methods, at)) {
                    continue;
                }
                if (at + 1 < leads) {
                    at++;
                    calls[at] = -1;
                    markedAhead[at] = list.size;
                } else if (isWhole(methods)) {
                    found++;
                    if (isFirstEnough) {
                        break;
                    }
                }
            }
            return found;
        }

        /** Marks the rows of a lead, and sets the head behind it; not so if a row came before. */
        private boolean isPut(Methods methods, int at) {
            int kind = CALLS * method + calls[at];
            int row = heads[at];
            for (int change = 0; change < methods.sizeOf(kind); change++) {
                if (list.mark(row) != 1) {
                    return false;
                }
                row = Row.changed(row, methods.lowers[kind][change]);
            }
            heads[at + 1] = row;
            return true;
        }

        /** Whether the leads, of which the first time is marked and not false, come round in time and stay true. */
        private boolean isWhole(Methods methods) {
            int made = heads[leads];
            if (Row.order(made) != times) {
                return false;
            }
            int head = made;
            boolean isTrue = true;
            for (int time = 1; time < times && isTrue; time++) {
                heads[0] = head;
                for (int at = 0; at < leads && isTrue; at++) {
                    isTrue = isPut(methods, at);
                }
                head = Row.then(head, made);
            }
            restoreHeads(methods);
            return isTrue;
        }

        private void restoreHeads(Methods methods) {
            heads[0] = Row.ROUNDS;
            for (int at = 0; at < leads; at++) {
                heads[at + 1] = Row.then(heads[at], methods.made[CALLS * method + calls[at]]);
            }
        }
    }

    /** The ringers, the weights of the bells, and the first band that was chosen last. */
    private static final class Ringers {
        private int bells;
        private int count;
        private int conductor;
        private final int[] strengths = new int[MOST_RINGERS];
        private final int[] slacks = new int[MOST_RINGERS];
        private final int[] memories = new int[MOST_RINGERS];
        private final int[] learnt = new int[MOST_RINGERS];
        private final int[] weights = new int[MOST_BELLS];
        private final int[] band = new int[MOST_BELLS];

        void clear(int bells) {
            this.bells = bells;
            count = 0;
            conductor = 0;
            Arrays.fill(weights, 1);
        }

        int add(int strength, int slack, int memory) {
            strengths[count] = strength;
            slacks[count] = slack;
            memories[count] = memory;
            learnt[count] = 0;
            count++;
            return count - 1;
        }

        boolean setKnown(int ringer, int method, boolean is) {
            int bit = 1 << method;
            boolean was = (learnt[ringer] & bit) != 0;
            learnt[ringer] = is ? learnt[ringer] | bit : learnt[ringer] & ~bit;
            return was;
        }

        private boolean isAble(int ringer, int known, int weight, int taken) {
            return (taken >> ringer & 1) == 0 && (learnt[ringer] & known) == known && strengths[ringer] >= weight;
        }

        private int able(int known, int weight, int taken) {
            int able = 0;
            for (int ringer = 0; ringer < count; ringer++) {
                if (isAble(ringer, known, weight, taken)) {
                    able++;
                }
            }
            return able;
        }

        /**
         * In how many ways the bells from one on can be given to ringers that are not taken.
         * Who can ring a bell can ring all lighter ones, so each bell, the heaviest first, leaves one ringer fewer.
         */
        long ways(int known, int fromBell, int taken) {
            long ways = 1;
            int given = 0;
            for (int weight = MOST_WEIGHT; weight >= 1; weight--) {
                int able = able(known, weight, taken);
                for (int bell = fromBell; bell < bells; bell++) {
                    if (weights[bell] == weight) {
                        ways *= Math.max(0, able - given);
                        given++;
                    }
                }
            }
            return ways;
        }

        boolean chooseFirst(int known) {
            int taken = 0;
            for (int bell = 0; bell < bells; bell++) {
                int ringer = lowestFor(bell, known, taken);
                if (ringer < 0) {
                    return false;
                }
                band[bell] = ringer;
                taken |= 1 << ringer;
            }
            return true;
        }

        /** The lowest ringer for a bell with whom the bells behind it can be rung too, or -1. */
        private int lowestFor(int bell, int known, int taken) {
            for (int ringer = 0; ringer < count; ringer++) {
                if (isAble(ringer, known, weights[bell], taken) && ways(known, bell + 1, taken | 1 << ringer) > 0) {
                    return ringer;
                }
            }
            return -1;
        }

        boolean isConducted(int bell) {
            return band[bell] == conductor;
        }
    }

    /** A block as it was rung by a band: who rang which line, who slipped, and how well each blow was struck. */
    private static final class Performance {
        private static final int HISTORY = 8;

        private int length;
        private int lengthOfBlock;
        private int slips;
        private int mended;
        private int repeats;
        private int heard;
        private int errors;
        private int day;
        private boolean wasTrue;
        private boolean wasLawful;
        private long random;
        private final int[] rows = new int[MOST_RUNG + 1];
        private final int[] lines = new int[MOST_BELLS];
        private final int[] bellsOfLines = new int[MOST_BELLS];
        private final int[] counts = new int[MOST_BELLS];
        /** For each of the last eight changes the pairs that slipped, in their order, and how many there are. */
        private final int[][] pairs = new int[HISTORY][MOST_BELLS];
        private final int[] slipped = new int[HISTORY];

        void ringAll(Touch touch, Ringers ringers, int seed) {
            begin(touch.length, seed);
            for (int change = 1; change <= touch.length; change++) {
                putRight(change, ringers);
                loseCount(change, touch, ringers);
                rows[change] = Row.then(rowOfLines(), touch.rows[change]);
                length++;
                strike(ringers);
            }
        }

        private void begin(int blockLength, int seed) {
            length = 0;
            lengthOfBlock = blockLength;
            slips = 0;
            mended = 0;
            heard = 0;
            errors = 0;
            day = -1;
            random = seed;
            rows[0] = Row.ROUNDS;
            for (int bell = 0; bell < MOST_BELLS; bell++) {
                lines[bell] = bell;
                bellsOfLines[bell] = bell;
                counts[bell] = 0;
            }
            Arrays.fill(slipped, 0);
        }

        private int rowOfLines() {
            int row = 0;
            for (int line = 0; line < MOST_BELLS; line++) {
                row |= bellsOfLines[line] << 3 * line;
            }
            return row;
        }

        /** The slips of an earlier change come first, so that all are put right in the order in which they happened. */
        private void putRight(int change, Ringers ringers) {
            for (int ahead = 4; ahead >= 2; ahead -= 2) {
                int earlier = change - ahead & HISTORY - 1;
                for (int slip = 0; slip < slipped[earlier]; slip++) {
                    int bell = pairs[earlier][slip] >> 3 & 7;
                    int other = pairs[earlier][slip] & 7;
                    boolean isLate = ringers.isConducted(bell) || ringers.isConducted(other);
                    if (isLate == (ahead == 4)) {
                        swapLines(bell, other);
                        mended++;
                    }
                }
            }
        }

        private void loseCount(int change, Touch touch, Ringers ringers) {
            int ahead = touch.rows[change - 1];
            int behind = touch.rows[change];
            slipped[change & HISTORY - 1] = 0;
            for (int bell = 0; bell < ringers.bells; bell++) {
                int line = lines[bell];
                int place = Row.place(behind, line);
                int way = place - Row.place(ahead, line);
                if (change == 1 || way != Row.place(ahead, line) - Row.place(touch.rows[change - 2], line)) {
                    counts[bell]++;
                }
                if (counts[bell] == ringers.memories[ringers.band[bell]]) {
                    counts[bell] = 0;
                    if (way != 0) {
                        // the other line comes from the place to which this one goes
                        slip(change & HISTORY - 1, bell, bellsOfLines[Row.bell(ahead, place)]);
                    }
                }
            }
        }

        private void slip(int now, int bell, int other) {
            if (slipped[now] < MOST_BELLS) {
                pairs[now][slipped[now]] = bell << 3 | other;
                slipped[now]++;
            }
            swapLines(bell, other);
            slips++;
        }

        private void swapLines(int bell, int other) {
            int line = lines[bell];
            lines[bell] = lines[other];
            lines[other] = line;
            bellsOfLines[lines[bell]] = bell;
            bellsOfLines[lines[other]] = other;
        }

        private void strike(Ringers ringers) {
            for (int bell = 0; bell < ringers.bells; bell++) {
                random = (random * 1103515245L + 12345L) % 2147483648L;
                int slack = ringers.slacks[ringers.band[bell]];
                int error = (int) (random / 65536L) % Math.max(1, 2 * slack + 1) - slack;
                if (Row.place(rows[length], bell) < Row.place(rows[length - 1], bell)) {
                    error += ringers.weights[bell];
                }
                errors += Math.abs(error);
                if (Math.abs(error) > 25 && !ringers.isConducted(bell)) {
                    heard++;
                }
            }
        }

        void judge(Truth truth, Touch touch) {
            repeats = truth.repeatsIn(rows, length);
            wasTrue = truth.firstRepeat(touch) < 0;
            wasLawful = truth.allowsAsLawful(touch);
        }

        boolean endsInRounds() {
            return rows[length] == Row.ROUNDS;
        }

        boolean isAllMended() {
            return mended == slips;
        }

        boolean isSoundItself() {
            return length == lengthOfBlock && mended <= slips;
        }

        boolean isBetterThan(Performance other) {
            return length > other.length || length == other.length && day < other.day;
        }
    }

    /** The rules of the society. */
    private static final class Rules {
        private int count;
        private final int[] days = new int[MOST_RULES];
        private final int[] leasts = new int[MOST_RULES];
        private final int[] mostSlips = new int[MOST_RULES];
        private final boolean[] areLawfulAllowed = new boolean[MOST_RULES];

        int add(int day, int least, int slips, boolean isAllowed) {
            days[count] = day;
            leasts[count] = least;
            mostSlips[count] = slips;
            areLawfulAllowed[count] = isAllowed;
            count++;
            return count - 1;
        }

        /** The rule of a day, or -1. */
        private int ruleOf(int day) {
            int best = -1;
            for (int rule = 0; rule < count; rule++) {
                if (days[rule] <= day && (best < 0 || days[rule] >= days[best])) {
                    best = rule;
                }
            }
            return best;
        }

        /** A performance that was not handed in has the day -1, of which there is no rule. */
        boolean allow(Performance performance) {
            int rule = ruleOf(performance.day);
            if (rule < 0 || performance.length < leasts[rule] || performance.slips > mostSlips[rule]) {
                return false;
            }
            return performance.isAllMended() && performance.endsInRounds()
                    && (performance.wasTrue || areLawfulAllowed[rule] && performance.wasLawful);
        }
    }
}
