import java.util.ArrayList;
import java.util.Arrays;
import java.util.HashMap;
import java.util.HashSet;
import java.util.LinkedHashMap;
import java.util.List;
import java.util.Map;
import java.util.NoSuchElementException;
import java.util.Set;

/** The document once more, as slow and as near to its words as can be, for the random runs to compare with. */
public final class Model {
    private static final Map<Integer, Map<String, Integer>> LISTS = new HashMap<>();

    private static final class Method {
        final List<Integer> plain = new ArrayList<>();
        final int[] at = {-1, -1, -1};
        final int[] places = new int[3];

        List<Integer> changes(char call) {
            List<Integer> changes = new ArrayList<>(plain);
            int index = "pbs".indexOf(call);
            if (at[index] >= 0) {
                changes.set(at[index], places[index]);
            }
            return changes;
        }
    }

    private static final class Item {
        int method;
        char call;
        int other = -1;
        int times;
    }

    private static final class Lead {
        int method;
        char call;
        String head;
    }

    private static final class Ringer {
        int strength;
        int slack;
        int memory;
        final Set<Integer> learnt = new HashSet<>();
    }

    private static final class Slip {
        int one;
        int other;
        int due;
    }

    private static final class Performance {
        final List<String> rows = new ArrayList<>();
        int slips;
        int mended;
        int heard;
        long errors;
        boolean wasTrue;
        boolean wasLawful;
        int day = -1;
    }

    private static final class Rule {
        int day;
        int least;
        int slips;
        boolean isAllowed;
    }

    private int bells = 6;
    private List<Integer> buffer;
    private List<Method> methods;
    private List<List<Item>> blocks;
    private List<Integer> wishes;
    private List<int[]> patterns;
    private List<Ringer> ringers;
    private int[] weights;
    private int conductor;
    private List<Performance> performances;
    private List<Rule> rules;
    private int tried;
    private int tries;
    private List<Character> found;

    public Model() {
        clear();
    }

    private void clear() {
        buffer = new ArrayList<>();
        methods = new ArrayList<>();
        blocks = new ArrayList<>();
        wishes = new ArrayList<>();
        patterns = new ArrayList<>();
        ringers = new ArrayList<>();
        weights = new int[bells + 1];
        Arrays.fill(weights, 1);
        conductor = 0;
        performances = new ArrayList<>();
        rules = new ArrayList<>();
        tried = 0;
    }

    private static void range(boolean is) {
        if (!is) {
            throw new IndexOutOfBoundsException();
        }
    }

    private static void argument(boolean is) {
        if (!is) {
            throw new IllegalArgumentException();
        }
    }

    private static void state(boolean is) {
        if (!is) {
            throw new IllegalStateException();
        }
    }

    private static void support(boolean is) {
        if (!is) {
            throw new UnsupportedOperationException();
        }
    }

    private String rounds() {
        return "12345678".substring(0, bells);
    }

    private boolean isLawfulChange(int places) {
        if (places < 0 || places >= 1 << bells) {
            return false;
        }
        boolean moves = false;
        for (int place = 1; place <= bells; place++) {
            if (!stays(places, place)) {
                if (place == bells || stays(places, place + 1)) {
                    return false;
                }
                moves = true;
                place++;
            }
        }
        return moves;
    }

    private static boolean stays(int places, int place) {
        return (places / (1 << (place - 1))) % 2 == 1;
    }

    private String changed(String row, int places) {
        StringBuilder next = new StringBuilder();
        for (int place = 1; place <= bells; place++) {
            if (stays(places, place)) {
                next.append(row.charAt(place - 1));
            } else {
                next.append(row.charAt(place)).append(row.charAt(place - 1));
                place++;
            }
        }
        return next.toString();
    }

    /** The rows of a lead and, last, the head of what follows. */
    private List<String> leadOf(int method, char call, String head) {
        List<String> rows = new ArrayList<>();
        rows.add(head);
        for (int places : methods.get(method).changes(call)) {
            rows.add(changed(rows.get(rows.size() - 1), places));
        }
        return rows;
    }

    private static <T> T last(List<T> list) {
        return list.get(list.size() - 1);
    }

    private static List<String> butLast(List<String> list) {
        return list.subList(0, list.size() - 1);
    }

    public int setBells(int number) {
        argument(number >= 4 && number <= 8);
        int before = bells;
        bells = number;
        clear();
        return before;
    }

    public int change(int places) {
        argument(isLawfulChange(places));
        state(buffer.size() < 40);
        buffer.add(places);
        return buffer.size();
    }

    public int method() {
        support(!buffer.isEmpty());
        state(methods.size() < 6);
        Method made = new Method();
        made.plain.addAll(buffer);
        buffer.clear();
        methods.add(made);
        return methods.size() - 1;
    }

    private boolean isMethod(int method) {
        return method >= 0 && method < methods.size();
    }

    private boolean isBlock(int block) {
        return block >= 0 && block < blocks.size();
    }

    private boolean isPlace(int place) {
        return place >= 1 && place <= bells;
    }

    private static boolean isCall(char call) {
        return call == 'p' || call == 'b' || call == 's';
    }

    public int setCall(int method, char call, int at, int places) {
        range(isMethod(method) && at >= 0 && at < methods.get(method).plain.size());
        argument((call == 'b' || call == 's') && isLawfulChange(places));
        int before = methods.get(method).changes(call).get(at);
        methods.get(method).at["pbs".indexOf(call)] = at;
        methods.get(method).places["pbs".indexOf(call)] = places;
        return before;
    }

    private boolean isPrinciple(int method) {
        return last(leadOf(method, 'p', rounds())).charAt(0) != '1';
    }

    public char kindOf(int method) {
        range(isMethod(method));
        if (isPrinciple(method)) {
            return 'l';
        }
        StringBuilder path = new StringBuilder();
        for (String row : butLast(leadOf(method, 'p', rounds()))) {
            path.append(row.indexOf('1') + 1);
        }
        String up = rounds();
        if (path.toString().equals(up + new StringBuilder(up).reverse())) {
            return 'h';
        }
        return path.toString().equals(path.reverse().toString()) ? 't' : 'a';
    }

    public boolean isEven(int method) {
        range(isMethod(method));
        List<Integer> changes = new ArrayList<>(methods.get(method).plain);
        changes.remove(changes.size() - 1);
        List<Integer> backward = new ArrayList<>();
        for (int change : changes) {
            backward.add(0, change);
        }
        return changes.equals(backward);
    }

    public int leads(int method) {
        range(isMethod(method));
        int leads = 0;
        String head = rounds();
        do {
            head = last(leadOf(method, 'p', head));
            leads++;
        } while (!head.equals(rounds()));
        return leads;
    }

    public int rings(int method) {
        range(isMethod(method));
        String head = last(leadOf(method, 'p', rounds()));
        Set<String> rings = new HashSet<>();
        for (int bell = 1; bell <= bells; bell++) {
            Set<Integer> ring = new java.util.TreeSet<>();
            int at = bell;
            while (ring.add(at)) {
                at = head.indexOf('0' + at) + 1;
            }
            if (ring.size() >= 2) {
                rings.add(ring.toString());
            }
        }
        return rings.size();
    }

    public int brings(int method, char call, int place) {
        range(isMethod(method) && isPlace(place));
        argument(isCall(call));
        return last(leadOf(method, call, rounds())).indexOf('0' + place) + 1;
    }

    public int block() {
        state(blocks.size() < 10);
        blocks.add(new ArrayList<>());
        return blocks.size() - 1;
    }

    public int lead(int block, int method, char call) {
        range(isBlock(block) && isMethod(method));
        argument(isCall(call));
        state(blocks.get(block).size() < 20);
        Item item = new Item();
        item.method = method;
        item.call = call;
        blocks.get(block).add(item);
        return blocks.get(block).size();
    }

    public int again(int block, int other, int times) {
        range(isBlock(block) && isBlock(other));
        argument(other < block && times >= 1 && times <= 20);
        state(blocks.get(block).size() < 20);
        Item item = new Item();
        item.other = other;
        item.times = times;
        blocks.get(block).add(item);
        return blocks.get(block).size();
    }

    public long length(int block) {
        range(isBlock(block));
        java.math.BigInteger length = exactLength(block);
        java.math.BigInteger most = java.math.BigInteger.valueOf(1000000000);
        return length.min(most).longValueExact();
    }

    private java.math.BigInteger exactLength(int block) {
        java.math.BigInteger[] lengths = new java.math.BigInteger[block + 1];
        for (int at = 0; at <= block; at++) {
            lengths[at] = java.math.BigInteger.ZERO;
            for (Item item : blocks.get(at)) {
                lengths[at] = lengths[at].add(item.other < 0
                        ? java.math.BigInteger.valueOf(methods.get(item.method).plain.size())
                        : lengths[item.other].multiply(java.math.BigInteger.valueOf(item.times)));
            }
        }
        return lengths[block];
    }

    private boolean canBeRung(int block) {
        return length(block) <= 3000;
    }

    private void ring(int block, List<String> rows, List<Lead> leads) {
        for (Item item : blocks.get(block)) {
            if (item.other < 0) {
                Lead lead = new Lead();
                lead.method = item.method;
                lead.call = item.call;
                lead.head = last(rows);
                leads.add(lead);
                List<String> rung = leadOf(item.method, item.call, last(rows));
                rows.addAll(rung.subList(1, rung.size()));
            } else if (length(item.other) > 0) {
                for (int time = 0; time < item.times; time++) {
                    ring(item.other, rows, leads);
                }
            }
        }
    }

    private List<String> rowsOf(int block) {
        List<String> rows = new ArrayList<>();
        rows.add(rounds());
        ring(block, rows, new ArrayList<>());
        return rows;
    }

    private List<Lead> leadsOf(int block) {
        List<String> rows = new ArrayList<>();
        rows.add(rounds());
        List<Lead> leads = new ArrayList<>();
        ring(block, rows, leads);
        return leads;
    }

    public int bellAt(int block, int row, int place) {
        range(isBlock(block) && isPlace(place));
        range(!canBeRung(block) || row >= 0 && row <= length(block));
        support(canBeRung(block));
        return rowsOf(block).get(row).charAt(place - 1) - '0';
    }

    public boolean comesRound(int block) {
        range(isBlock(block));
        support(canBeRung(block));
        return last(rowsOf(block)).equals(rounds());
    }

    public boolean isTrue(int block, int way) {
        range(isBlock(block));
        argument(way >= 1 && way <= 3);
        support(canBeRung(block));
        List<String> rows = butLast(rowsOf(block));
        return new HashSet<>(rows).size() == rows.size();
    }

    public int firstFalse(int block) {
        range(isBlock(block));
        support(canBeRung(block));
        Set<String> seen = new HashSet<>();
        List<String> rows = butLast(rowsOf(block));
        for (int row = 0; row < rows.size(); row++) {
            if (!seen.add(rows.get(row))) {
                return row;
            }
        }
        throw new NoSuchElementException();
    }

    private Map<String, Integer> list() {
        if (!LISTS.containsKey(bells)) {
            Map<String, Integer> list = new LinkedHashMap<>();
            fill("", list);
            LISTS.put(bells, list);
        }
        return LISTS.get(bells);
    }

    private void fill(String start, Map<String, Integer> list) {
        if (start.length() == bells) {
            list.put(start, list.size());
        }
        for (char bell : rounds().toCharArray()) {
            if (start.indexOf(bell) < 0) {
                fill(start + bell, list);
            }
        }
    }

    public int falseHeads(int method, char call, int other, char otherCall) {
        range(isMethod(method) && isMethod(other));
        argument(isCall(call) && isCall(otherCall));
        Set<String> rows = new HashSet<>(butLast(leadOf(method, call, rounds())));
        List<String> second = butLast(leadOf(other, otherCall, rounds()));
        int heads = 0;
        for (String head : list().keySet()) {
            for (String row : second) {
                StringBuilder moved = new StringBuilder();
                for (char bell : row.toCharArray()) {
                    moved.append(head.charAt(bell - '1'));
                }
                if (rows.contains(moved.toString())) {
                    heads++;
                    break;
                }
            }
        }
        return heads;
    }

    private Map<String, Integer> times(List<String> rows) {
        Map<String, Integer> times = new HashMap<>();
        for (String row : rows) {
            times.merge(row, 1, Integer::sum);
        }
        return times;
    }

    public int level(int block) {
        range(isBlock(block));
        support(canBeRung(block));
        int level = 0;
        for (int often : times(butLast(rowsOf(block))).values()) {
            level = Math.max(level, often);
        }
        return level;
    }

    public boolean isLawful(int block) {
        range(isBlock(block));
        support(canBeRung(block));
        Map<String, Integer> times = times(butLast(rowsOf(block)));
        int least = Integer.MAX_VALUE;
        int most = 0;
        for (String row : list().keySet()) {
            least = Math.min(least, times.getOrDefault(row, 0));
            most = Math.max(most, times.getOrDefault(row, 0));
        }
        return comesRound(block) && most - least <= 1;
    }

    public int changesOfMethod(int block) {
        range(isBlock(block));
        support(canBeRung(block));
        int changes = 0;
        Lead before = null;
        for (Lead lead : leadsOf(block)) {
            if (before != null && before.method != lead.method) {
                changes++;
            }
            before = lead;
        }
        return changes;
    }

    public int work(int block, int method) {
        range(isBlock(block) && isMethod(method));
        support(canBeRung(block));
        Set<String> pairs = new HashSet<>();
        for (Lead lead : leadsOf(block)) {
            for (int place = 1; place <= bells; place++) {
                char bell = lead.head.charAt(place - 1);
                if (lead.method == method && (bell != '1' || isPrinciple(method))) {
                    pairs.add(bell + " in " + place);
                }
            }
        }
        return pairs.size();
    }

    public int struck(int block, int bell) {
        range(isBlock(block) && isPlace(bell));
        support(canBeRung(block));
        int struck = 0;
        for (Lead lead : leadsOf(block)) {
            int place = last(leadOf(lead.method, lead.call, lead.head)).indexOf('0' + bell);
            int other = last(leadOf(lead.method, 'p', lead.head)).indexOf('0' + bell);
            if (place != other) {
                struck++;
            }
        }
        return struck;
    }

    public int wish(int bell) {
        argument(bell >= 0 && bell <= bells && (bell == 0 || !wishes.contains(bell)));
        state(wishes.size() < bells);
        wishes.add(bell);
        return wishes.size();
    }

    public int pattern() {
        state(patterns.size() < 8);
        int[] made = new int[bells];
        for (int place = 0; place < wishes.size(); place++) {
            made[place] = wishes.get(place);
        }
        wishes.clear();
        patterns.add(made);
        return patterns.size() - 1;
    }

    public int music(int block, int pattern, char stroke) {
        range(isBlock(block) && pattern >= 0 && pattern < patterns.size());
        argument(stroke == 'h' || stroke == 'b' || stroke == 'a');
        support(canBeRung(block));
        List<String> rows = rowsOf(block);
        int music = 0;
        for (int row = 1; row < rows.size(); row++) {
            boolean is = stroke == 'a' || stroke == (row % 2 == 1 ? 'h' : 'b');
            for (int place = 0; place < bells; place++) {
                int bell = patterns.get(pattern)[place];
                is &= bell == 0 || bell == rows.get(row).charAt(place) - '0';
            }
            music += is ? 1 : 0;
        }
        return music;
    }

    public int seek(int method, int leads, int calls, int times) {
        range(isMethod(method));
        argument(leads >= 1 && leads <= 20 && calls >= 1 && calls <= 3 && times >= 1 && times <= 6);
        state(blocks.size() + (times > 1 ? 2 : 1) <= 10);
        support(leads * times * methods.get(method).plain.size() <= 3000);
        tries = 0;
        found = null;
        int[] count = {0};
        go(method, leads, calls, times, new ArrayList<>(), List.of(rounds()), count, true);
        if (found == null) {
            throw new NoSuchElementException();
        }
        tried = tries;
        int made = block();
        for (char call : found) {
            lead(made, method, call);
        }
        if (times > 1) {
            int whole = block();
            again(whole, made, times);
            return whole;
        }
        return made;
    }

    /** Rows are those of all leads so far, and the head behind them. */
    private void go(int method, int leads, int calls, int times, List<Character> row, List<String> rows, int[] count,
            boolean isFirstEnough) {
        for (char call : "pbs".substring(0, calls).toCharArray()) {
            if (found != null && isFirstEnough) {
                return;
            }
            support(tries < 30000);
            tries++;
            List<String> longer = new ArrayList<>(butLast(rows));
            longer.addAll(leadOf(method, call, last(rows)));
            if (new HashSet<>(butLast(longer)).size() < longer.size() - 1) {
                continue;
            }
            List<Character> next = new ArrayList<>(row);
            next.add(call);
            if (next.size() < leads) {
                go(method, leads, calls, times, next, longer, count, isFirstEnough);
            } else if (isComposition(method, next, times)) {
                count[0]++;
                found = next;
            }
        }
    }

    private boolean isComposition(int method, List<Character> calls, int times) {
        List<String> rows = new ArrayList<>();
        rows.add(rounds());
        for (int time = 1; time <= times; time++) {
            for (char call : calls) {
                List<String> lead = leadOf(method, call, last(rows));
                rows.addAll(lead.subList(1, lead.size()));
            }
            if (last(rows).equals(rounds()) != (time == times)) {
                return false;
            }
        }
        return new HashSet<>(butLast(rows)).size() == rows.size() - 1;
    }

    public int tried() {
        return tried;
    }

    public long count(int method, int leads, int calls) {
        range(isMethod(method));
        argument(leads >= 1 && leads <= 12 && calls >= 1 && calls <= 3);
        tries = 0;
        int[] count = {0};
        go(method, leads, calls, 1, new ArrayList<>(), List.of(rounds()), count, false);
        return count[0];
    }

    public int ringer(int strength, int slack, int memory) {
        argument(strength >= 1 && strength <= 9 && slack >= 0 && slack <= 30 && memory >= 2 && memory <= 99);
        state(ringers.size() < 12);
        Ringer made = new Ringer();
        made.strength = strength;
        made.slack = slack;
        made.memory = memory;
        ringers.add(made);
        return ringers.size() - 1;
    }

    public boolean learn(int ringer, int method, boolean is) {
        range(ringer >= 0 && ringer < ringers.size() && isMethod(method));
        Set<Integer> learnt = ringers.get(ringer).learnt;
        return is ? !learnt.add(method) : learnt.remove(method);
    }

    public int setWeight(int bell, int weight) {
        range(isPlace(bell));
        argument(weight >= 1 && weight <= 9);
        int before = weights[bell];
        weights[bell] = weight;
        return before;
    }

    public int setConductor(int ringer) {
        range(ringer >= 0 && ringer < ringers.size());
        int before = conductor;
        conductor = ringer;
        return before;
    }

    private Set<Integer> methodsOf(int block) {
        Set<Integer> set = new HashSet<>();
        boolean[] isIn = new boolean[block + 1];
        isIn[block] = true;
        for (int at = block; at >= 0; at--) {
            for (Item item : isIn[at] ? blocks.get(at) : new ArrayList<Item>()) {
                if (item.other < 0) {
                    set.add(item.method);
                } else {
                    isIn[item.other] = true;
                }
            }
        }
        return set;
    }

    private boolean canRing(int ringer, int bell, Set<Integer> needed) {
        return ringers.get(ringer).strength >= weights[bell] && ringers.get(ringer).learnt.containsAll(needed);
    }

    private long waysFrom(int bell, int taken, Set<Integer> needed, Map<Integer, Long> known) {
        if (bell > bells) {
            return 1;
        }
        int key = taken * 16 + bell;
        if (!known.containsKey(key)) {
            long ways = 0;
            for (int ringer = 0; ringer < ringers.size(); ringer++) {
                if ((taken & 1 << ringer) == 0 && canRing(ringer, bell, needed)) {
                    ways += waysFrom(bell + 1, taken | 1 << ringer, needed, known);
                }
            }
            known.put(key, ways);
        }
        return known.get(key);
    }

    private boolean choose(int bell, List<Integer> band, Set<Integer> needed) {
        if (bell > bells) {
            return true;
        }
        for (int ringer = 0; ringer < ringers.size(); ringer++) {
            if (!band.contains(ringer) && canRing(ringer, bell, needed)) {
                band.add(ringer);
                if (choose(bell + 1, band, needed)) {
                    return true;
                }
                band.remove(band.size() - 1);
            }
        }
        return false;
    }

    private List<Integer> bandOf(int block) {
        if (bands(block) == 0) {
            throw new NoSuchElementException();
        }
        List<Integer> band = new ArrayList<>();
        choose(1, band, methodsOf(block));
        return band;
    }

    public int ringerFor(int block, int bell) {
        range(isBlock(block) && isPlace(bell));
        return bandOf(block).get(bell - 1);
    }

    public long bands(int block) {
        range(isBlock(block));
        return waysFrom(1, 0, methodsOf(block), new HashMap<>());
    }

    public int perform(int block, int seed) {
        range(isBlock(block));
        argument(seed >= 0 && seed <= 99999);
        support(canBeRung(block) && comesRound(block));
        List<Integer> band = bandOf(block);
        state(performances.size() < 12);
        Performance made = new Performance();
        made.wasTrue = isTrue(block, 3);
        made.wasLawful = isLawful(block);
        ringIt(made, rowsOf(block), band, seed);
        performances.add(made);
        return performances.size() - 1;
    }

    private static char way(List<String> rows, int change, int line) {
        int from = rows.get(change - 1).indexOf('0' + line);
        int to = rows.get(change).indexOf('0' + line);
        return to > from ? 'u' : to < from ? 'd' : '-';
    }

    private void ringIt(Performance made, List<String> rows, List<Integer> band, int seed) {
        int[] line = new int[bells + 1];
        int[] counts = new int[bells + 1];
        for (int bell = 1; bell <= bells; bell++) {
            line[bell] = bell;
        }
        List<Slip> slips = new ArrayList<>();
        made.rows.add(rounds());
        long z = seed;
        for (int change = 1; change < rows.size(); change++) {
            for (Slip slip : slips) {
                if (slip.due == change) {
                    swap(line, slip.one, slip.other);
                    made.mended++;
                }
            }
            for (int bell = 1; bell <= bells; bell++) {
                char way = way(rows, change, line[bell]);
                if (change == 1 || way(rows, change - 1, line[bell]) != way) {
                    counts[bell]++;
                }
                if (counts[bell] == ringers.get(band.get(bell - 1)).memory) {
                    counts[bell] = 0;
                    if (way != '-') {
                        Slip slip = new Slip();
                        slip.one = bell;
                        slip.other = partner(rows, change, line, bell);
                        boolean isConducted = band.get(bell - 1) == conductor
                                || band.get(slip.other - 1) == conductor;
                        slip.due = change + (isConducted ? 4 : 2);
                        swap(line, slip.one, slip.other);
                        slips.add(slip);
                    }
                }
            }
            StringBuilder row = new StringBuilder();
            for (char number : rows.get(change).toCharArray()) {
                for (int bell = 1; bell <= bells; bell++) {
                    if (line[bell] == number - '0') {
                        row.append(bell);
                    }
                }
            }
            made.rows.add(row.toString());
            for (int bell = 1; bell <= bells; bell++) {
                z = (z * 1103515245L + 12345L) % 2147483648L;
                int ringer = band.get(bell - 1);
                int slack = ringers.get(ringer).slack;
                long error = z / 65536 % (2 * slack + 1) - slack;
                if (way(made.rows, change, bell) == 'd') {
                    error += weights[bell];
                }
                made.errors += Math.abs(error);
                if ((error > 25 || error < -25) && ringer != conductor) {
                    made.heard++;
                }
            }
        }
        made.slips = slips.size();
    }

    private int partner(List<String> rows, int change, int[] line, int bell) {
        int to = rows.get(change).indexOf('0' + line[bell]);
        int other = rows.get(change - 1).charAt(to) - '0';
        for (int one = 1; one <= bells; one++) {
            if (line[one] == other) {
                return one;
            }
        }
        throw new AssertionError();
    }

    private static void swap(int[] line, int one, int other) {
        int kept = line[one];
        line[one] = line[other];
        line[other] = kept;
    }

    private Performance performance(int number) {
        range(number >= 0 && number < performances.size());
        return performances.get(number);
    }

    public int rungAt(int performance, int row, int place) {
        Performance told = performance(performance);
        range(row >= 0 && row < told.rows.size() && isPlace(place));
        return told.rows.get(row).charAt(place - 1) - '0';
    }

    public int tell(int performance, char what) {
        Performance told = performance(performance);
        List<String> rows = butLast(told.rows);
        switch (what) {
            case 'l': return rows.size();
            case 's': return told.slips;
            case 'm': return told.mended;
            case 'f': return rows.size() - new HashSet<>(rows).size();
            case 'h': return told.heard;
            case 'r': return last(told.rows).equals(rounds()) ? 1 : 0;
            default: throw new IllegalArgumentException();
        }
    }

    public double meanError(int performance) {
        Performance told = performance(performance);
        if (told.rows.size() == 1) {
            throw new ArithmeticException();
        }
        return (double) told.errors / (double) ((told.rows.size() - 1) * bells);
    }

    public int rule(int day, int least, int slips, boolean isAllowed) {
        argument(day >= 0 && day <= 99999 && least >= 0 && least <= 9999 && slips >= 0 && slips <= 99);
        state(rules.size() < 10);
        Rule made = new Rule();
        made.day = day;
        made.least = least;
        made.slips = slips;
        made.isAllowed = isAllowed;
        rules.add(made);
        return rules.size() - 1;
    }

    public int handIn(int performance, int day) {
        Performance told = performance(performance);
        argument(day >= 0 && day <= 99999);
        int before = told.day;
        told.day = day;
        return before;
    }

    public boolean counts(int performance) {
        Performance told = performance(performance);
        Rule best = null;
        for (Rule rule : rules) {
            if (rule.day <= told.day && (best == null || rule.day >= best.day)) {
                best = rule;
            }
        }
        return told.day >= 0 && best != null && told.rows.size() - 1 >= best.least && told.slips <= best.slips
                && told.slips == told.mended && last(told.rows).equals(rounds())
                && (told.wasTrue || best.isAllowed && told.wasLawful);
    }

    public int record(int day) {
        int best = -1;
        for (int number = 0; number < performances.size(); number++) {
            Performance told = performances.get(number);
            if (!counts(number) || told.day > day) {
                continue;
            }
            if (best < 0 || told.rows.size() > performances.get(best).rows.size()
                    || told.rows.size() == performances.get(best).rows.size()
                    && told.day < performances.get(best).day) {
                best = number;
            }
        }
        if (best < 0) {
            throw new NoSuchElementException();
        }
        return best;
    }

    public float mendedShare() {
        if (performances.isEmpty()) {
            throw new ArithmeticException();
        }
        int right = 0;
        for (Performance told : performances) {
            right += told.slips == told.mended ? 1 : 0;
        }
        return (float) right / (float) performances.size();
    }

    public long checksum(int block) {
        range(isBlock(block));
        support(canBeRung(block));
        long sum = 0;
        for (String row : rowsOf(block)) {
            sum = 31 * sum + list().get(row);
        }
        return sum;
    }

    public boolean isSound() {
        return true;
    }
}
