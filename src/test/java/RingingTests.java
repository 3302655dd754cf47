import java.util.NoSuchElementException;

/** Promises 31 to 45 and 47: ringers, bands, performances and the society. */
public final class RingingTests {
    private static final Class<IllegalArgumentException> ARGUMENT = IllegalArgumentException.class;
    private static final Class<IllegalStateException> STATE = IllegalStateException.class;
    private static final Class<IndexOutOfBoundsException> INDEX = IndexOutOfBoundsException.class;
    private static final Class<UnsupportedOperationException> SUPPORT = UnsupportedOperationException.class;
    private static final Class<NoSuchElementException> NONE = NoSuchElementException.class;
    private static final Class<ArithmeticException> SHARE = ArithmeticException.class;

    public static void main(String[] args) {
        ringers();
        learning();
        weights();
        conductors();
        bands();
        performing();
        slipsOfAll();
        slipsOfConductor();
        slipsOfOthers();
        twoWordsAtOnce();
        memories();
        errors();
        numbersOfPerformances();
        rules();
        handingIn();
        counting();
        lawfulOnes();
        records();
        shares();
        asRung();
        Check.end("RingingTests");
    }

    /** Ringers that know the methods 0 up to the given one, all with these numbers. */
    private static void hire(Changeringer tower, int many, int slack, int memory) {
        for (int number = 0; number < many; number++) {
            int ringer = tower.ringer(9, slack, memory);
            tower.learn(ringer, 0, true);
        }
    }

    /** 4 bells, and leads of one change in which all places change. */
    private static Changeringer swaps(int leads) {
        Changeringer tower = Check.tower(4);
        Check.method(tower, 0);
        tower.block();
        for (int lead = 0; lead < leads; lead++) {
            tower.lead(0, 0, 'p');
        }
        return tower;
    }

    private static void ringers() {
        Changeringer tower = new Changeringer();
        int[][] wrong = {{0, 0, 2}, {10, 0, 2}, {1, -1, 2}, {1, 31, 2}, {1, 0, 1}, {1, 0, 100}, {-5, -5, -5}};
        for (int[] numbers : wrong) {
            Check.fails(31, ARGUMENT, () -> tower.ringer(numbers[0], numbers[1], numbers[2]));
        }
        for (int ringer = 0; ringer < 12; ringer++) {
            Check.due(31, ringer, tower.ringer(ringer % 2 == 0 ? 1 : 9, ringer % 2 * 30, ringer % 3 == 0 ? 2 : 99));
        }
        Check.fails(31, ARGUMENT, () -> tower.ringer(0, 0, 2));
        Check.fails(31, STATE, () -> tower.ringer(1, 0, 2));
    }

    private static void learning() {
        Changeringer tower = new Changeringer();
        Check.method(tower, 0);
        Check.method(tower, 0);
        tower.ringer(1, 0, 2);
        tower.ringer(1, 0, 2);
        Check.due(32, false, tower.learn(0, 0, false));
        Check.due(32, false, tower.learn(0, 0, true));
        Check.due(32, true, tower.learn(0, 0, true));
        Check.due(32, false, tower.learn(0, 1, true));
        Check.due(32, false, tower.learn(1, 0, true));
        Check.due(32, true, tower.learn(0, 0, false));
        Check.due(32, false, tower.learn(0, 0, true));
        Check.due(32, true, tower.learn(0, 1, true));
        Check.fails(32, INDEX, () -> tower.learn(2, 0, true));
        Check.fails(32, INDEX, () -> tower.learn(-1, 0, true));
        Check.fails(32, INDEX, () -> tower.learn(0, 2, true));
        Check.fails(32, INDEX, () -> tower.learn(0, -1, true));
        tower.setBells(6);
        Check.method(tower, 0);
        tower.ringer(1, 0, 2);
        Check.due(32, false, tower.learn(0, 0, true));
    }

    private static void weights() {
        Changeringer tower = Check.tower(4);
        Check.due(33, 1, tower.setWeight(4, 9));
        Check.due(33, 9, tower.setWeight(4, 2));
        Check.due(33, 1, tower.setWeight(1, 1));
        Check.fails(33, INDEX, () -> tower.setWeight(5, 1));
        Check.fails(33, INDEX, () -> tower.setWeight(0, 0));
        Check.fails(33, ARGUMENT, () -> tower.setWeight(4, 0));
        Check.fails(33, ARGUMENT, () -> tower.setWeight(4, 10));
        Check.due(33, 2, tower.setWeight(4, 1));
    }

    private static void conductors() {
        Changeringer tower = new Changeringer();
        Check.fails(34, INDEX, () -> tower.setConductor(0));
        hireAny(tower, 3);
        Check.due(34, 0, tower.setConductor(2));
        Check.due(34, 2, tower.setConductor(1));
        Check.fails(34, INDEX, () -> tower.setConductor(3));
        Check.fails(34, INDEX, () -> tower.setConductor(-1));
        Check.due(34, 1, tower.setConductor(1));
    }

    private static void hireAny(Changeringer tower, int many) {
        for (int number = 0; number < many; number++) {
            tower.ringer(1, 0, 2);
        }
    }

    private static void bands() {
        Changeringer tower = swaps(2);
        tower.block();
        tower.block();
        tower.again(2, 0, 1);
        Check.due(36, 0L, tower.bands(1));
        hireAny(tower, 4);
        // without leads no method is asked for
        Check.due(36, 24L, tower.bands(1));
        Check.due(36, 0L, tower.bands(0));
        Check.fails(35, NONE, () -> tower.ringerFor(0, 1));
        for (int ringer = 0; ringer < 4; ringer++) {
            tower.learn(ringer, 0, true);
        }
        Check.due(36, 24L, tower.bands(0));
        // the methods of lower blocks are those of the block too
        Check.due(36, 24L, tower.bands(2));
        tower.learn(1, 0, false);
        Check.due(36, 0L, tower.bands(2));
        Check.due(36, 24L, tower.bands(1));
        tower.learn(1, 0, true);
        tower.setWeight(2, 5);
        Check.due(36, 0L, tower.bands(0));
        tower.ringer(5, 0, 2);
        tower.learn(4, 0, true);
        Check.due(36, 24L, tower.bands(0));
        int[] first = {0, 4, 1, 2};
        for (int bell = 1; bell <= 4; bell++) {
            Check.due(35, first[bell - 1], tower.ringerFor(0, bell));
        }
        // the two who can ring 2 and 3 are not to be taken for 1
        tower.setWeight(3, 2);
        tower.setWeight(2, 2);
        tower.setBells(4);
        tower.ringer(9, 0, 2);
        tower.ringer(2, 0, 2);
        tower.ringer(1, 0, 2);
        tower.ringer(1, 0, 2);
        tower.block();
        tower.setWeight(3, 2);
        tower.setWeight(4, 3);
        Check.due(36, 2L, tower.bands(0));
        int[] only = {2, 3, 1, 0};
        for (int bell = 1; bell <= 4; bell++) {
            Check.due(35, only[bell - 1], tower.ringerFor(0, bell));
        }
        tower.setWeight(2, 2);
        Check.due(36, 0L, tower.bands(0));
        Check.fails(35, NONE, () -> tower.ringerFor(0, 1));
        Check.fails(35, INDEX, () -> tower.ringerFor(1, 1));
        Check.fails(35, INDEX, () -> tower.ringerFor(0, 0));
        Check.fails(35, INDEX, () -> tower.ringerFor(0, 5));
        Check.fails(36, INDEX, () -> tower.bands(1));
        Check.fails(36, INDEX, () -> tower.bands(-1));
        Changeringer eight = Check.tower(8);
        eight.block();
        hireAny(eight, 12);
        Check.due(36, 19958400L, eight.bands(0));
    }

    private static void performing() {
        Changeringer tower = swaps(1);
        Check.fails(37, INDEX, () -> tower.perform(1, -1));
        Check.fails(37, INDEX, () -> tower.perform(-1, 0));
        Check.fails(37, ARGUMENT, () -> tower.perform(0, -1));
        Check.fails(37, ARGUMENT, () -> tower.perform(0, 100000));
        Check.fails(37, SUPPORT, () -> tower.perform(0, 0));
        tower.lead(0, 0, 'p');
        Check.fails(37, NONE, () -> tower.perform(0, 99999));
        hire(tower, 4, 0, 99);
        for (int performance = 0; performance < 12; performance++) {
            Check.due(37, performance, tower.perform(0, performance == 0 ? 99999 : performance));
        }
        Check.fails(37, STATE, () -> tower.perform(0, 0));
        tower.learn(0, 0, false);
        Check.fails(37, NONE, () -> tower.perform(0, 0));
        tower.block();
        for (int level = 1; level < 4; level++) {
            tower.block();
            tower.again(level + 1, level - 1, 20);
            tower.again(level, level - 1, 20);
        }
        tower.again(4, 3, 20);
        Check.fails(37, SUPPORT, () -> tower.perform(4, 0));
        Check.due(37, 2, tower.tell(11, 'l'));
    }

    /** All lose count in the second change: each slip is undone by the next bell's, and none is mended. */
    private static void slipsOfAll() {
        Changeringer tower = swaps(2);
        hire(tower, 4, 0, 2);
        tower.perform(0, 5);
        Check.due(39, 4, tower.tell(0, 's'));
        Check.due(39, 0, tower.tell(0, 'm'));
        Check.due(39, 1, tower.tell(0, 'r'));
        Check.due(39, 0, tower.tell(0, 'f'));
        Check.due(39, 2, tower.tell(0, 'l'));
        Check.due(39, 0, tower.tell(0, 'h'));
        Check.due(38, "2143", Check.rung(tower, 0, 1, 4));
        Check.due(38, "1234", Check.rung(tower, 0, 2, 4));
        // without slack the weights alone are errors: two bells go down in each of two changes
        Check.due(40, 0.5, tower.meanError(0));
        Check.fails(38, INDEX, () -> tower.rungAt(0, 3, 1));
        Check.fails(38, INDEX, () -> tower.rungAt(0, -1, 1));
        Check.fails(38, INDEX, () -> tower.rungAt(0, 0, 0));
        Check.fails(38, INDEX, () -> tower.rungAt(0, 0, 5));
        Check.fails(38, INDEX, () -> tower.rungAt(1, 0, 1));
        Check.fails(38, INDEX, () -> tower.rungAt(-1, 0, 1));
    }

    private static Changeringer oneForgets(int conductor) {
        Changeringer tower = swaps(6);
        hire(tower, 1, 0, 2);
        hire(tower, 3, 0, 99);
        tower.setConductor(conductor);
        tower.perform(0, 5);
        return tower;
    }

    /** The bell 1 slips with the bell 2 in the changes 2, 4 and 6; the first slip is mended in the change 6. */
    private static void slipsOfConductor() {
        for (int conductor = 0; conductor < 2; conductor++) {
            Changeringer tower = oneForgets(conductor);
            String[] rows = {"1234", "2143", "2134", "1243", "1234", "2143", "1234"};
            for (int row = 0; row <= 6; row++) {
                Check.due(38, rows[row], Check.rung(tower, 0, row, 4));
            }
            Check.due(39, 3, tower.tell(0, 's'));
            Check.due(39, 1, tower.tell(0, 'm'));
            Check.due(39, 1, tower.tell(0, 'r'));
            Check.due(39, 2, tower.tell(0, 'f'));
        }
    }

    /** The bells that slip are told at once: mended in the changes 4 and 6. */
    private static void slipsOfOthers() {
        for (int conductor = 2; conductor < 4; conductor++) {
            Changeringer tower = oneForgets(conductor);
            String[] rows = {"1234", "2143", "2134", "1243", "2134", "1243", "2134"};
            for (int row = 0; row <= 6; row++) {
                Check.due(38, rows[row], Check.rung(tower, 0, row, 4));
            }
            Check.due(39, 3, tower.tell(0, 's'));
            Check.due(39, 2, tower.tell(0, 'm'));
            Check.due(39, 0, tower.tell(0, 'r'));
            Check.due(39, 2, tower.tell(0, 'f'));
        }
    }

    /** Swaps of several slips of one change, and of two changes, are put right in the order in which they came. */
    private static void twoWordsAtOnce() {
        Changeringer tower = Check.minimus();
        int[] memories = {5, 4, 6, 4};
        for (int memory : memories) {
            int ringer = tower.ringer(1, 0, memory);
            tower.learn(ringer, 0, true);
        }
        Check.block(tower, 0, "ppp");
        tower.setConductor(3);
        tower.perform(0, 5);
        Model model = new Model();
        model.setBells(4);
        for (int change : new int[] {0, 9, 0, 9, 0, 9, 0, 3}) {
            model.change(change);
        }
        model.method();
        for (int memory : memories) {
            int ringer = model.ringer(1, 0, memory);
            model.learn(ringer, 0, true);
        }
        model.block();
        model.lead(0, 0, 'p');
        model.lead(0, 0, 'p');
        model.lead(0, 0, 'p');
        model.setConductor(3);
        model.perform(0, 5);
        for (int row = 0; row <= 24; row++) {
            for (int place = 1; place <= 4; place++) {
                Check.due(38, model.rungAt(0, row, place), tower.rungAt(0, row, place));
            }
        }
        for (char what : "lsmfhr".toCharArray()) {
            Check.due(39, model.tell(0, what), tower.tell(0, what));
        }
    }

    /** In the plain hunt of bell 1 the way changes in its first change, behind, and so on: one slip in the fourth. */
    private static void memories() {
        Changeringer tower = Check.minimus();
        Check.block(tower, 0, "ppp");
        hire(tower, 1, 0, 4);
        hire(tower, 3, 0, 99);
        tower.perform(0, 1);
        // bell 1: up up up - down down down -: counts in the changes 1, 4, 5, 8 (the fourth, but it does not move), 9
        Check.due(39, 0, tower.tell(0, 's'));
        Changeringer three = Check.minimus();
        Check.block(three, 0, "ppp");
        hire(three, 1, 0, 3);
        hire(three, 3, 0, 99);
        three.perform(0, 1);
        // counts in 1, 4, 5: the third, in which it moves down from behind, with the bell that is in 3
        Check.due(38, Check.row(three, 0, 4, 4), Check.rung(three, 0, 4, 4));
        String before = Check.row(three, 0, 5, 4);
        String after = Check.rung(three, 0, 5, 4);
        Check.due(38, before.charAt(3), after.charAt(2));
        Check.due(38, before.charAt(2), after.charAt(3));
        Check.due(38, before.substring(0, 2), after.substring(0, 2));
    }

    /** The numbers for the seed 0 are 0, 21468, 9988, 22117, 3498, 16927, 16045 and 19741. */
    private static void errors() {
        int[][] cases = {
            // conductor, weights of 1 to 4, heard, sum of errors: -30, 27, 15, 5, -9, 0, -28, 8 and the weights
            {0, 1, 1, 1, 1, 2, 122}, {3, 1, 1, 1, 1, 3, 122}, {1, 1, 1, 1, 1, 2, 122}, {2, 1, 1, 1, 1, 2, 122},
            {0, 1, 1, 2, 1, 2, 121}, {0, 1, 1, 3, 1, 1, 120}, {3, 1, 9, 1, 1, 3, 130}, {3, 9, 1, 1, 9, 3, 122},
            {3, 9, 1, 3, 9, 2, 120}};
        for (int[] numbers : cases) {
            Changeringer tower = swaps(2);
            hire(tower, 4, 30, 99);
            tower.setConductor(numbers[0]);
            for (int bell = 1; bell <= 4; bell++) {
                tower.setWeight(bell, numbers[bell]);
            }
            tower.perform(0, 0);
            int heard = numbers[5];
            Check.due(39, heard, tower.tell(0, 'h'));
            Check.due(40, sumOf(numbers) / 8.0, tower.meanError(0));
        }
        Changeringer tower = swaps(2);
        hire(tower, 4, 12, 99);
        tower.perform(0, 99999);
        long z = 99999;
        double sum = 0;
        int[] weights = {0, 1, 0, 1, 1, 0, 1, 0};
        for (int blow = 0; blow < 8; blow++) {
            z = Math.floorMod(z * 1103515245L + 12345L, 1L << 31);
            sum += Math.abs(z / 65536 % 25 - 12 + weights[blow]);
        }
        Check.due(40, sum / 8, tower.meanError(0));
        Check.fails(40, INDEX, () -> tower.meanError(1));
        Check.fails(40, INDEX, () -> tower.meanError(-1));
        tower.block();
        tower.perform(1, 0);
        Check.fails(40, SHARE, () -> tower.meanError(1));
    }

    private static int sumOf(int[] numbers) {
        return 30 + 27 + numbers[2] + 15 + 5 + numbers[4] + Math.abs(numbers[1] - 9) + 0 + 28 - numbers[3] + 8;
    }

    private static void numbersOfPerformances() {
        Changeringer tower = swaps(2);
        hire(tower, 4, 0, 99);
        tower.block();
        tower.perform(1, 3);
        Check.due(39, 0, tower.tell(0, 'l'));
        Check.due(39, 0, tower.tell(0, 's'));
        Check.due(39, 0, tower.tell(0, 'm'));
        Check.due(39, 0, tower.tell(0, 'f'));
        Check.due(39, 0, tower.tell(0, 'h'));
        Check.due(39, 1, tower.tell(0, 'r'));
        Check.due(38, "1234", Check.rung(tower, 0, 0, 4));
        Check.fails(38, INDEX, () -> tower.rungAt(0, 1, 1));
        Check.fails(39, ARGUMENT, () -> tower.tell(0, 'x'));
        Check.fails(39, ARGUMENT, () -> tower.tell(0, 'L'));
        Check.fails(39, INDEX, () -> tower.tell(1, 'l'));
        Check.fails(39, INDEX, () -> tower.tell(-1, 'x'));
        // a block that is rung twice has all but two of its rows again
        tower.again(1, 0, 3);
        tower.perform(1, 3);
        Check.due(39, 6, tower.tell(1, 'l'));
        Check.due(39, 4, tower.tell(1, 'f'));
        // the earlier performance is as it was
        Check.due(39, 0, tower.tell(0, 'l'));
    }

    private static void rules() {
        Changeringer tower = new Changeringer();
        int[][] wrong = {{-1, 0, 0}, {100000, 0, 0}, {0, -1, 0}, {0, 10000, 0}, {0, 0, -1}, {0, 0, 100}};
        for (int[] numbers : wrong) {
            Check.fails(41, ARGUMENT, () -> tower.rule(numbers[0], numbers[1], numbers[2], true));
        }
        for (int rule = 0; rule < 10; rule++) {
            Check.due(41, rule, rule % 2 == 0 ? tower.rule(0, 0, 0, true) : tower.rule(99999, 9999, 99, false));
        }
        Check.fails(41, ARGUMENT, () -> tower.rule(-1, 0, 0, true));
        Check.fails(41, STATE, () -> tower.rule(0, 0, 0, true));
    }

    private static void handingIn() {
        Changeringer tower = swaps(2);
        hire(tower, 4, 0, 99);
        tower.perform(0, 1);
        tower.perform(0, 1);
        Check.fails(42, INDEX, () -> tower.handIn(2, -1));
        Check.fails(42, INDEX, () -> tower.handIn(-1, 0));
        Check.fails(42, ARGUMENT, () -> tower.handIn(0, -1));
        Check.fails(42, ARGUMENT, () -> tower.handIn(0, 100000));
        Check.due(42, -1, tower.handIn(0, 99999));
        Check.due(42, 99999, tower.handIn(0, 0));
        Check.due(42, 0, tower.handIn(0, 7));
        Check.due(42, -1, tower.handIn(1, 0));
    }

    private static void counting() {
        Changeringer tower = swaps(2);
        hire(tower, 4, 0, 99);
        tower.perform(0, 1);
        Check.fails(43, INDEX, () -> tower.counts(1));
        Check.fails(43, INDEX, () -> tower.counts(-1));
        tower.rule(10, 2, 0, false);
        Check.due(43, false, tower.counts(0));
        tower.handIn(0, 9);
        Check.due(43, false, tower.counts(0));
        tower.handIn(0, 10);
        Check.due(43, true, tower.counts(0));
        // of two rules of one day the last one told: too short
        tower.rule(10, 3, 0, false);
        Check.due(43, false, tower.counts(0));
        tower.rule(12, 2, 0, false);
        Check.due(43, false, tower.counts(0));
        tower.handIn(0, 11);
        Check.due(43, false, tower.counts(0));
        tower.handIn(0, 12);
        Check.due(43, true, tower.counts(0));
        // an earlier rule that is told later does not matter
        tower.rule(11, 99, 0, false);
        Check.due(43, true, tower.counts(0));
        countingSlips();
    }

    /** Performances with slips that are mended, one that ends wrong, one with a slip that stays. */
    private static void countingSlips() {
        Changeringer tower = Check.minimus();
        Check.block(tower, 0, "ppp");
        hire(tower, 1, 0, 60);
        hire(tower, 3, 0, 99);
        tower.perform(0, 1);
        Check.due(39, 0, tower.tell(0, 's'));
        Changeringer slips = Check.minimus();
        Check.block(slips, 0, "ppp");
        // bell 1 counts in 1, 4, 5, 8, 9, 12, 13, 16, 17: the ninth moves, and the slip is mended in time
        hire(slips, 1, 0, 9);
        hire(slips, 3, 0, 99);
        slips.setConductor(3);
        slips.perform(0, 1);
        Check.due(39, 1, slips.tell(0, 's'));
        Check.due(39, 1, slips.tell(0, 'm'));
        Check.due(39, 1, slips.tell(0, 'r'));
        slips.handIn(0, 5);
        slips.rule(0, 24, 0, false);
        Check.due(43, false, slips.counts(0));
        slips.rule(1, 24, 1, false);
        Check.due(43, true, slips.counts(0));
        slips.rule(2, 25, 1, false);
        Check.due(43, false, slips.counts(0));
        slips.rule(3, 24, 99, false);
        Check.due(43, true, slips.counts(0));
        // slips that are not mended, though it ends in rounds
        Changeringer late = oneForgets(0);
        late.lead(0, 0, 'p');
        late.handIn(0, 5);
        late.rule(0, 0, 99, true);
        Check.due(43, false, late.counts(0));
        // and one that ends wrong
        Changeringer wrong = oneForgets(3);
        wrong.handIn(0, 5);
        wrong.rule(0, 0, 99, true);
        Check.due(43, false, wrong.counts(0));
    }

    private static void lawfulOnes() {
        Changeringer tower = Check.minimus();
        hire(tower, 4, 0, 99);
        int extent = Check.block(tower, 0, "ppp");
        int twice = tower.block();
        tower.again(twice, extent, 2);
        int odd = Check.block(tower, 0, "bbb");
        tower.perform(extent, 1);
        tower.perform(twice, 1);
        tower.perform(odd, 1);
        for (int performance = 0; performance < 3; performance++) {
            Check.due(39, 0, tower.tell(performance, 's'));
            tower.handIn(performance, 5);
        }
        tower.rule(0, 0, 0, false);
        Check.due(43, true, tower.counts(0));
        Check.due(43, false, tower.counts(1));
        Check.due(43, false, tower.counts(2));
        tower.rule(1, 0, 0, true);
        Check.due(43, true, tower.counts(0));
        Check.due(43, true, tower.counts(1));
        Check.due(43, false, tower.counts(2));
        // what is done to the block later does not touch what was rung
        tower.lead(extent, 0, 'b');
        tower.setCall(0, 'b', 0, 9);
        Check.due(43, true, tower.counts(0));
        Check.due(43, true, tower.counts(1));
    }

    private static void records() {
        Changeringer tower = Check.minimus();
        hire(tower, 4, 0, 99);
        int lead = Check.block(tower, 0, "b");
        int course = Check.block(tower, 0, "ppp");
        tower.perform(lead, 1);
        tower.perform(course, 1);
        tower.perform(course, 2);
        tower.perform(course, 3);
        Check.fails(44, NONE, () -> tower.record(99999));
        tower.rule(10, 0, 0, false);
        Check.fails(44, NONE, () -> tower.record(99999));
        tower.handIn(0, 12);
        Check.fails(44, NONE, () -> tower.record(11));
        Check.fails(44, NONE, () -> tower.record(-1));
        Check.fails(44, NONE, () -> tower.record(Integer.MIN_VALUE));
        Check.due(44, 0, tower.record(12));
        Check.due(44, 0, tower.record(Integer.MAX_VALUE));
        tower.handIn(3, 20);
        Check.due(44, 0, tower.record(19));
        Check.due(44, 3, tower.record(20));
        // of the same length the earliest day, then the lowest number
        tower.handIn(2, 20);
        Check.due(44, 2, tower.record(20));
        tower.handIn(1, 21);
        Check.due(44, 2, tower.record(30));
        tower.handIn(1, 15);
        Check.due(44, 1, tower.record(30));
        tower.handIn(1, 9);
        Check.due(44, 2, tower.record(30));
        // each counts by the rule of its own day
        tower.rule(20, 25, 0, false);
        Check.due(44, 0, tower.record(30));
        tower.handIn(2, 19);
        Check.due(44, 2, tower.record(30));
    }

    private static void shares() {
        Changeringer tower = swaps(2);
        Check.fails(45, SHARE, () -> tower.mendedShare());
        hire(tower, 4, 0, 99);
        tower.perform(0, 1);
        Check.due(45, 1.0f, tower.mendedShare());
        tower.learn(0, 0, false);
        hire(tower, 4, 0, 2);
        tower.learn(1, 0, false);
        tower.learn(2, 0, false);
        tower.perform(0, 1);
        Check.due(45, 0.5f, tower.mendedShare());
        tower.block();
        tower.perform(1, 1);
        Check.due(45, 2.0f / 3.0f, tower.mendedShare());
        tower.setBells(4);
        Check.fails(45, SHARE, () -> tower.mendedShare());
    }

    private static void asRung() {
        Changeringer tower = new Changeringer();
        Check.due(47, true, tower.isSound());
        Changeringer minor = Check.minor();
        int course = Check.block(minor, 0, "ppppp");
        int wrong = Check.block(minor, 0, "pbsbb");
        minor.block();
        int many = minor.block();
        minor.again(many, wrong, 20);
        minor.again(many, course, 20);
        Check.due(47, true, minor.isSound());
        hire(minor, 6, 4, 5);
        minor.perform(course, 17);
        minor.lead(course, 0, 'b');
        minor.setCall(0, 'b', 3, 0);
        Check.due(47, true, minor.isSound());
        Check.due(39, 60, minor.tell(0, 'l'));
    }
}
