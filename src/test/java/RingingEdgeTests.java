import java.util.NoSuchElementException;

/** The edges that are allowed, promises 31 to 45 and 47: the least and the greatest, and each sentence on ringing. */
public final class RingingEdgeTests {
    private static final Class<IndexOutOfBoundsException> INDEX = IndexOutOfBoundsException.class;
    private static final Class<NoSuchElementException> NONE = NoSuchElementException.class;
    private static final Class<ArithmeticException> SHARE = ArithmeticException.class;

    public static void main(String[] args) {
        greatestRingers();
        learningOfEach();
        weightsAtTheBounds();
        conductorsOfTheTower();
        strengthAtLeast();
        bandsOfBlocks();
        seeds();
        longestPerformance();
        blocksWithoutChanges();
        bandThatRings();
        countThatBeginsAnew();
        stillIsAWay();
        linesWhoeverRangThem();
        lastChanges();
        wordsInTime();
        twoWordsInOneChange();
        heardBlows();
        heardByTheConductor();
        rowsLikeEarlierOnes();
        rulesAtTheBounds();
        handingInAgain();
        countingAtTheBounds();
        countingWhatWentWrong();
        countingByTheBlock();
        recordsOfOneDay();
        recordsByTheirRules();
        sharesOfAll();
        soundInEachState();
        Check.end("RingingEdgeTests");
    }

    /** 4 bells, the methods 0 to 3 of one change: all change, 1 and 4 stay, 1 and 2, 3 and 4; and a block of these. */
    private static Changeringer changesOf(int... methods) {
        Changeringer tower = Check.tower(4);
        for (int places : new int[] {0, 9, 3, 12}) {
            Check.method(tower, places);
        }
        tower.block();
        for (int method : methods) {
            tower.lead(0, method, 'p');
        }
        return tower;
    }

    private static int hire(Changeringer tower, int strength, int slack, int memory) {
        int ringer = tower.ringer(strength, slack, memory);
        for (int method = 0; method < 4; method++) {
            tower.learn(ringer, method, true);
        }
        return ringer;
    }

    /** The first ringer has this memory, three others one that is never full. */
    private static void hireOneWhoForgets(Changeringer tower, int memory) {
        hire(tower, 1, 0, memory);
        for (int ringer = 1; ringer < 4; ringer++) {
            hire(tower, 1, 0, 99);
        }
    }

    private static void rows(Changeringer tower, int performance, String... due) {
        for (int row = 0; row < due.length; row++) {
            Check.due(38, due[row], Check.rung(tower, performance, row, 4));
        }
        Check.due(39, due.length - 1, tower.tell(performance, 'l'));
        Check.fails(38, INDEX, () -> tower.rungAt(performance, due.length, 1));
    }

    private static void numbers(Changeringer tower, int performance, int slips, int mended, int isRound) {
        Check.due(39, slips, tower.tell(performance, 's'));
        Check.due(39, mended, tower.tell(performance, 'm'));
        Check.due(39, isRound, tower.tell(performance, 'r'));
    }

    private static void greatestRingers() {
        Changeringer tower = new Changeringer();
        Check.due(31, 0, tower.ringer(1, 0, 2));
        Check.due(31, 1, tower.ringer(9, 30, 99));
        Check.due(31, 2, tower.ringer(1, 30, 2));
        for (int ringer = 3; ringer < 12; ringer++) {
            Check.due(31, ringer, tower.ringer(9, 0, 99));
        }
        Check.fails(31, IllegalStateException.class, () -> tower.ringer(1, 0, 2));
        Check.due(34, 0, tower.setConductor(11));
        Check.due(34, 11, tower.setConductor(0));
    }

    /** The last ringer and the last method; what one learns, no other one has learnt, nor another method. */
    private static void learningOfEach() {
        Changeringer tower = Check.tower(4);
        for (int method = 0; method < 6; method++) {
            Check.method(tower, 0);
        }
        for (int ringer = 0; ringer < 12; ringer++) {
            tower.ringer(1, 0, 2);
        }
        Check.due(32, false, tower.learn(11, 5, true));
        Check.due(32, false, tower.learn(0, 0, true));
        for (int ringer = 0; ringer < 12; ringer++) {
            for (int method = 0; method < 6; method++) {
                boolean was = ringer == 11 && method == 5 || ringer == 0 && method == 0;
                Check.due(32, was, tower.learn(ringer, method, false));
                Check.due(32, false, tower.learn(ringer, method, false));
            }
        }
    }

    private static void weightsAtTheBounds() {
        for (int bells = 4; bells <= 8; bells++) {
            Changeringer tower = Check.tower(bells);
            Check.due(33, 1, tower.setWeight(1, 9));
            Check.due(33, 1, tower.setWeight(bells, 9));
            Check.due(33, 9, tower.setWeight(1, 1));
            Check.due(33, 1, tower.setWeight(2, 1));
            Check.due(33, 9, tower.setWeight(bells, 9));
            int beyond = bells + 1;
            Check.fails(33, INDEX, () -> tower.setWeight(beyond, 1));
        }
    }

    /** The conductor is the ringer 0 at first, one that is hired later, too. */
    private static void conductorsOfTheTower() {
        Changeringer tower = Check.tower(4);
        Check.fails(34, INDEX, () -> tower.setConductor(0));
        tower.ringer(1, 0, 2);
        Check.due(34, 0, tower.setConductor(0));
        Check.fails(34, INDEX, () -> tower.setConductor(1));
        tower.ringer(1, 0, 2);
        Check.due(34, 0, tower.setConductor(1));
        Check.due(34, 1, tower.setConductor(1));
    }

    /** A strength that is the weight suffices, one less does not. */
    private static void strengthAtLeast() {
        Changeringer tower = changesOf(0, 0);
        for (int strength : new int[] {4, 9, 1, 5}) {
            hire(tower, strength, 0, 99);
        }
        tower.setWeight(1, 9);
        tower.setWeight(2, 5);
        tower.setWeight(3, 4);
        Check.due(36, 1L, tower.bands(0));
        int[] only = {1, 3, 0, 2};
        for (int bell = 1; bell <= 4; bell++) {
            Check.due(35, only[bell - 1], tower.ringerFor(0, bell));
        }
        tower.setWeight(3, 5);
        Check.due(36, 0L, tower.bands(0));
        Check.fails(35, NONE, () -> tower.ringerFor(0, 3));
        tower.setWeight(3, 1);
        Check.due(36, 2L, tower.bands(0));
        // the lowest for the bell 3, as the bell 1 and the bell 2 have but one each
        Check.due(35, 0, tower.ringerFor(0, 3));
        Check.due(35, 2, tower.ringerFor(0, 4));
    }

    /** No ringers, one too few, just enough, as many as can be; methods of lower blocks, and of none. */
    private static void bandsOfBlocks() {
        Changeringer tower = changesOf(0, 1);
        tower.block();
        tower.block();
        tower.again(2, 0, 1);
        Check.due(36, 0L, tower.bands(1));
        Check.fails(35, NONE, () -> tower.ringerFor(1, 1));
        for (int ringer = 0; ringer < 3; ringer++) {
            hire(tower, 1, 0, 99);
        }
        Check.due(36, 0L, tower.bands(1));
        Check.fails(35, NONE, () -> tower.ringerFor(1, 1));
        int last = tower.ringer(1, 0, 99);
        Check.due(36, 24L, tower.bands(1));
        Check.due(36, 0L, tower.bands(0));
        Check.due(36, 0L, tower.bands(2));
        // one of two methods is not enough
        tower.learn(last, 0, true);
        Check.due(36, 0L, tower.bands(0));
        Check.due(36, 0L, tower.bands(2));
        tower.learn(last, 0, false);
        tower.learn(last, 1, true);
        Check.due(36, 0L, tower.bands(0));
        Check.due(36, 0L, tower.bands(2));
        tower.learn(last, 0, true);
        Check.due(36, 24L, tower.bands(0));
        Check.due(36, 24L, tower.bands(2));
        Check.due(35, 3, tower.ringerFor(2, 4));
        // bells of all weights, each with one ringer fewer
        Changeringer eight = Check.tower(8);
        eight.block();
        for (int ringer = 0; ringer < 12; ringer++) {
            eight.ringer(Math.min(9, ringer + 1), 0, 2);
        }
        for (int bell = 1; bell <= 8; bell++) {
            eight.setWeight(bell, bell + 1);
        }
        // 4 for the heaviest, as 9 to 12 are of strength 9, then 5 less the one that is taken, and so on
        Check.due(36, 65536L, eight.bands(0));
        Check.due(35, 1, eight.ringerFor(0, 1));
        Check.due(35, 8, eight.ringerFor(0, 8));
    }

    private static void seeds() {
        Changeringer tower = changesOf(0, 0);
        for (int ringer = 0; ringer < 4; ringer++) {
            hire(tower, 1, 30, 99);
        }
        Check.due(37, 0, tower.perform(0, 0));
        Check.due(37, 1, tower.perform(0, 99999));
        // the first number of the seed 0 is 12345, that is 0 divided by 65536; the errors are told in RingingTests
        Check.due(40, 122 / 8.0, tower.meanError(0));
        // a performance with the same seed is the same again
        tower.perform(0, 99999);
        Check.due(40, tower.meanError(1), tower.meanError(2));
    }

    /** 3000 changes can be performed, in the twelfth performance too. */
    private static void longestPerformance() {
        Changeringer tower = changesOf(0, 0, 0, 0, 0, 0, 0, 0, 0, 0);
        for (int level = 1; level <= 2; level++) {
            tower.block();
            tower.again(level, level - 1, level == 1 ? 20 : 15);
        }
        for (int ringer = 0; ringer < 4; ringer++) {
            hire(tower, 1, 0, 99);
        }
        for (int performance = 0; performance < 12; performance++) {
            Check.due(37, performance, tower.perform(2, performance));
        }
        for (int performance = 0; performance < 12; performance += 11) {
            Check.due(39, 3000, tower.tell(performance, 'l'));
            Check.due(39, 2998, tower.tell(performance, 'f'));
            Check.due(38, 2, tower.rungAt(performance, 2999, 1));
            Check.due(38, 4, tower.rungAt(performance, 3000, 4));
            int last = performance;
            Check.fails(38, INDEX, () -> tower.rungAt(last, 3001, 1));
            Check.due(40, 0.5, tower.meanError(performance));
        }
        // each line of a number changes its way in each change: the 99th count comes in the change 99, and so on
        Check.due(39, 30 * 4, tower.tell(0, 's'));
        Check.due(47, true, tower.isSound());
    }

    private static void blocksWithoutChanges() {
        Changeringer tower = changesOf();
        Check.fails(37, NONE, () -> tower.perform(0, 5));
        for (int ringer = 0; ringer < 4; ringer++) {
            tower.ringer(1, 5, 2);
        }
        Check.due(37, 0, tower.perform(0, 5));
        rows(tower, 0, "1234");
        numbers(tower, 0, 0, 0, 1);
        Check.due(39, 0, tower.tell(0, 'f'));
        Check.due(39, 0, tower.tell(0, 'h'));
        Check.fails(40, SHARE, () -> tower.meanError(0));
        // true, and all of no slips mended: it counts, if no length is asked for
        tower.handIn(0, 3);
        tower.rule(3, 0, 0, false);
        Check.due(43, true, tower.counts(0));
        Check.due(44, 0, tower.record(3));
        Check.due(45, 1.0f, tower.mendedShare());
        tower.rule(3, 1, 0, false);
        Check.due(43, false, tower.counts(0));
    }

    /** The ringer 4 rings the bell 2, and forgets; who conducts is told by ringers, not by bells. */
    private static void bandThatRings() {
        int[] conductors = {4, 0, 1, 3};
        String[][] due = {{"1234", "2143", "2134", "1243", "1234", "2143", "1234"},
            {"1234", "2143", "2134", "1243", "2134", "1243", "2134"}};
        for (int conductor : conductors) {
            Changeringer tower = changesOf(0, 0, 0, 0, 0, 0);
            for (int ringer = 0; ringer < 4; ringer++) {
                hire(tower, 1, 0, 99);
            }
            hire(tower, 5, 0, 2);
            tower.setWeight(2, 5);
            tower.setConductor(conductor);
            tower.perform(0, 5);
            // the ringer 0 rings the bell 1, with whom the bell 2 slips; the ringer 1 the bell 3, the ringer 3 none
            boolean isLate = conductor == 4 || conductor == 0;
            rows(tower, 0, due[isLate ? 0 : 1]);
            numbers(tower, 0, 3, isLate ? 1 : 2, isLate ? 1 : 0);
            if (isLate) {
                // weights: 2 and 4 go down, then 3, 1 and 4, 3, 2 and 4, 1 and 3
                Check.due(40, (6 + 1 + 2 + 1 + 6 + 2) / 24.0, tower.meanError(0));
            }
        }
    }

    /** A count that is full when the line stays begins anew, too: the second count is full in the change 4. */
    private static void countThatBeginsAnew() {
        Changeringer tower = changesOf(0, 2, 0, 0, 3);
        hireOneWhoForgets(tower, 2);
        tower.perform(0, 5);
        rows(tower, 0, "1234", "2143", "2134", "1243", "1234", "2134");
        numbers(tower, 0, 1, 0, 0);
    }

    /** A line that stays, after it stayed, moves in the same way; the first change counts, whatever the line does. */
    private static void stillIsAWay() {
        Changeringer tower = changesOf(2, 2, 0, 0);
        hireOneWhoForgets(tower, 2);
        tower.perform(0, 5);
        rows(tower, 0, "1234", "1243", "1234", "1243", "2134");
        numbers(tower, 0, 1, 0, 0);
    }

    /** What counts is how the line went before, not the bell: the bell 1 slips with 2 in the change 2, with 4 in 6. */
    private static void linesWhoeverRangThem() {
        Changeringer tower = changesOf(0, 0, 1, 0, 1, 1, 0, 1);
        hireOneWhoForgets(tower, 2);
        tower.perform(0, 5);
        rows(tower, 0, "1234", "2143", "2134", "2314", "3241", "3421", "3412", "4321", "4231");
        numbers(tower, 0, 2, 1, 0);
    }

    /** A slip in the last change but one is not mended, one in the change ahead of that is, in the last change. */
    private static void lastChanges() {
        // the bell 1 counts in 1 and 2 and slips; in the changes 3 to 5 its line goes on, or stays on
        Changeringer tower = changesOf(0, 0, 2, 2);
        hireOneWhoForgets(tower, 2);
        tower.setConductor(3);
        tower.perform(0, 5);
        rows(tower, 0, "1234", "2143", "2134", "2143", "1234");
        numbers(tower, 0, 1, 1, 1);
        tower.setConductor(0);
        tower.perform(0, 5);
        rows(tower, 1, "1234", "2143", "2134", "2143", "2134");
        numbers(tower, 1, 1, 0, 0);
        Changeringer shorter = changesOf(0, 0);
        hireOneWhoForgets(shorter, 2);
        shorter.setConductor(3);
        shorter.perform(0, 5);
        rows(shorter, 0, "1234", "2143", "2134");
        numbers(shorter, 0, 1, 0, 0);
    }

    /** Put right two changes later, or four if the conductor rings one of the two, and not in between or behind. */
    private static void wordsInTime() {
        String[] early = {"1234", "2143", "2134", "2143", "1234", "1243", "1234", "1243", "1234"};
        String[] late = {"1234", "2143", "2134", "2143", "2134", "2143", "1234", "1243", "1234"};
        for (int conductor = 0; conductor < 4; conductor++) {
            Changeringer tower = changesOf(0, 0, 2, 2, 2, 2, 2, 2);
            hireOneWhoForgets(tower, 2);
            tower.setConductor(conductor);
            tower.perform(0, 5);
            // the bells 1 and 2 slip
            rows(tower, 0, conductor < 2 ? late : early);
            numbers(tower, 0, 1, 1, 1);
            // a later conductor does not touch what was rung
            tower.setConductor(3 - conductor);
            rows(tower, 0, conductor < 2 ? late : early);
        }
    }

    /**
     * Two slips that are put right in one change: 4 with 2 in the change 2, told late, and 4 with 3 in the change 4.
     * The document does not tell their order; here it is that in which they happened.
     */
    private static void twoWordsInOneChange() {
        Changeringer tower = changesOf(1, 2, 1, 2, 1, 2);
        for (int memory : new int[] {99, 5, 4, 2}) {
            hire(tower, 1, 0, memory);
        }
        tower.setConductor(1);
        tower.perform(0, 5);
        rows(tower, 0, "1234", "1324", "1324", "1234", "1234", "1324", "1423");
        numbers(tower, 0, 2, 2, 0);
    }

    /** 25 and -25 are not heard, 26 and -26 are; the weight counts for bells that go down only. */
    private static void heardBlows() {
        // seed, number of the first blow and of the fifth one, error of both, how many are heard
        int[][] cases = {
            {186, 18965, 16601, 25, -20, 0}, {57, 9511, 1171, 26, -17, 1},
            {127, 8545, 29357, -25, -13, 0}, {56, 25441, 6386, -26, 13, 1},
            {25, 27741, 4202, 17, 25, 0}, {326, 17032, 7436, -17, 26, 1},
            {14, 6360, 28796, -14, -25, 0}, {125, 7636, 7018, -19, -26, 1}};
        for (int[] numbers : cases) {
            Changeringer tower = changesOf(0, 0);
            hire(tower, 1, 30, 99);
            for (int ringer = 1; ringer < 5; ringer++) {
                hire(tower, 1, 0, 99);
            }
            tower.setConductor(4);
            tower.perform(0, numbers[0]);
            // the bell 1 goes up, and down in the second change
            Check.due(39, numbers[1] % 61 - 30, numbers[3]);
            Check.due(39, numbers[2] % 61 - 30 + 1, numbers[4]);
            Check.due(39, numbers[5], tower.tell(0, 'h'));
            // 2 and 4 go down, then 3
            Check.due(40, (Math.abs(numbers[3]) + Math.abs(numbers[4]) + 3) / 8.0, tower.meanError(0));
        }
    }

    /** Of the second ringer, with the slack 30 and the bell 2 of the weight 5, the first error is 27 + 5. */
    private static void heardByTheConductor() {
        int[] heard = {1, 1, 1, 1, 0};
        for (int conductor = 0; conductor < 5; conductor++) {
            Changeringer tower = changesOf(0, 0);
            for (int ringer = 0; ringer < 4; ringer++) {
                hire(tower, 1, 0, 99);
            }
            hire(tower, 5, 30, 99);
            tower.setWeight(2, 5);
            tower.setConductor(conductor);
            tower.perform(0, 0);
            Check.due(39, heard[conductor], tower.tell(0, 'h'));
            Check.due(40, (32 + 1 + 1 + 0 + 1) / 8.0, tower.meanError(0));
        }
    }

    /** Rows that are like one ahead of them, in the performance, not in the block; the last one left out. */
    private static void rowsLikeEarlierOnes() {
        Changeringer tower = changesOf(0, 0, 2, 2);
        hireOneWhoForgets(tower, 2);
        tower.setConductor(3);
        tower.perform(0, 5);
        // 1234 2143 2134 2143, and 1234: by the block 1234 2143 1234 1243, and 1234
        Check.due(39, 1, tower.tell(0, 'f'));
        Changeringer true4 = changesOf(0, 1, 0, 1, 0, 1, 0, 1);
        hireOneWhoForgets(true4, 99);
        true4.perform(0, 5);
        Check.due(39, 0, true4.tell(0, 'f'));
        // the row 1 three times: two that are like an earlier one
        Changeringer often = changesOf(0, 0, 0, 0, 0, 0);
        hireOneWhoForgets(often, 99);
        often.perform(0, 5);
        Check.due(39, 4, often.tell(0, 'f'));
    }

    private static void rulesAtTheBounds() {
        Changeringer tower = changesOf(0, 0);
        Check.due(41, 0, tower.rule(0, 0, 0, false));
        Check.due(41, 1, tower.rule(99999, 0, 99, true));
        hireOneWhoForgets(tower, 99);
        tower.perform(0, 5);
        tower.handIn(0, 99999);
        Check.due(43, true, tower.counts(0));
        Check.due(41, 2, tower.rule(99999, 9999, 99, true));
        Check.due(43, false, tower.counts(0));
        tower.handIn(0, 99998);
        Check.due(43, true, tower.counts(0));
        tower.handIn(0, 0);
        Check.due(43, true, tower.counts(0));
        Check.due(44, 0, tower.record(0));
        Check.fails(44, NONE, () -> tower.record(-1));
        // the greatest day, though it was told first, and not the rule of an earlier day that was told last
        Changeringer first = changesOf(0, 0);
        hireOneWhoForgets(first, 99);
        first.perform(0, 5);
        first.handIn(0, 12);
        first.rule(10, 3, 0, false);
        first.rule(5, 2, 0, false);
        Check.due(43, false, first.counts(0));
        first.rule(11, 2, 0, false);
        first.rule(10, 3, 0, false);
        Check.due(43, true, first.counts(0));
    }

    private static void handingInAgain() {
        Changeringer tower = changesOf(0, 0);
        hireOneWhoForgets(tower, 99);
        for (int performance = 0; performance < 12; performance++) {
            tower.perform(0, performance);
        }
        tower.rule(5, 0, 0, false);
        Check.due(42, -1, tower.handIn(11, 0));
        Check.due(42, 0, tower.handIn(11, 5));
        Check.due(43, true, tower.counts(11));
        Check.due(42, 5, tower.handIn(11, 4));
        // the later day is forgotten
        Check.due(43, false, tower.counts(11));
        Check.due(42, 4, tower.handIn(11, 4));
        Check.due(42, -1, tower.handIn(0, 99999));
        Check.due(43, true, tower.counts(0));
        Check.due(43, false, tower.counts(1));
    }

    /** As long as asked for, with just as many slips, all mended, on the very day of the rule. */
    private static void countingAtTheBounds() {
        Changeringer slips = changesOf(0, 1, 0, 1, 0, 1, 0, 1);
        hireOneWhoForgets(slips, 3);
        slips.setConductor(3);
        slips.perform(0, 5);
        // the line 1 counts in 1, 4 and 5: a slip in the change 5, which is mended in the change 7
        numbers(slips, 0, 1, 1, 1);
        Check.due(17, true, slips.isTrue(0, 1));
        slips.handIn(0, 7);
        Check.due(43, false, slips.counts(0));
        int[][] cases = {{7, 8, 1, 1}, {7, 9, 1, 0}, {7, 8, 0, 0}, {8, 0, 99, 0}, {7, 0, 99, 1}, {6, 9999, 0, 1}};
        for (int[] numbers : cases) {
            slips.rule(numbers[0], numbers[1], numbers[2], false);
            Check.due(43, numbers[3] == 1, slips.counts(0));
        }
    }

    /** A performance that ends in rounds with slips that were not mended, and one that does not, though all were. */
    private static void countingWhatWentWrong() {
        Changeringer late = changesOf(0, 0);
        hire(late, 1, 0, 2);
        hireOneWhoForgets(late, 2);
        late.perform(0, 5);
        rows(late, 0, "1234", "2143", "1234");
        numbers(late, 0, 2, 0, 1);
        late.handIn(0, 7);
        late.rule(0, 0, 99, true);
        Check.due(43, false, late.counts(0));
        Check.due(45, 0.0f, late.mendedShare());
        // 3 slips with 1, then 4 with 3; the first slip is put right in the change 4, the second one in the change 7
        Changeringer wrong = changesOf(3, 1, 2, 0, 1, 3, 1);
        hire(wrong, 1, 0, 99);
        hire(wrong, 1, 0, 99);
        hire(wrong, 1, 0, 2);
        hire(wrong, 1, 0, 2);
        wrong.setConductor(3);
        wrong.perform(0, 5);
        rows(wrong, 0, "1234", "2134", "2134", "2134", "3241", "3421", "4321", "3241");
        numbers(wrong, 0, 2, 2, 0);
        Check.due(17, true, wrong.isTrue(0, 1));
        wrong.handIn(0, 7);
        wrong.rule(0, 0, 99, true);
        Check.due(43, false, wrong.counts(0));
        Check.due(45, 1.0f, wrong.mendedShare());
    }

    /** It is the block that must be true or lawful, as it was when it was rung, not the rows of the performance. */
    private static void countingByTheBlock() {
        Changeringer tower = Check.minimus();
        for (int ringer = 0; ringer < 4; ringer++) {
            tower.learn(tower.ringer(1, 0, ringer == 0 ? 9 : 99), 0, true);
        }
        tower.setConductor(3);
        Check.block(tower, 0, "ppp");
        tower.perform(0, 5);
        numbers(tower, 0, 1, 1, 1);
        tower.rule(0, 0, 9, false);
        tower.handIn(0, 1);
        Check.due(43, true, tower.counts(0));
        // now the block is not true, and does not come round: the performance was rung by what it was
        tower.lead(0, 0, 'p');
        Check.due(43, true, tower.counts(0));
        Check.due(39, 24, tower.tell(0, 'l'));
        // once more often is lawful, as long as it comes round: three leads, and a bob that comes round
        Check.block(tower, 0, "pppb");
        tower.perform(1, 5);
        tower.handIn(1, 1);
        Check.due(39, tower.tell(1, 's'), tower.tell(1, 'm'));
        Check.due(43, false, tower.counts(1));
        tower.rule(0, 0, 9, true);
        Check.due(43, true, tower.counts(1));
        Check.due(43, true, tower.counts(0));
        tower.rule(0, 0, 9, false);
        Check.due(43, false, tower.counts(1));
        // twice a part alone is neither
        Check.block(tower, 0, "bb");
        tower.perform(2, 5);
        tower.handIn(2, 1);
        tower.rule(0, 0, 9, true);
        Check.due(43, false, tower.counts(2));
    }

    private static void recordsOfOneDay() {
        Changeringer tower = changesOf(0, 0);
        hireOneWhoForgets(tower, 99);
        Check.fails(44, NONE, () -> tower.record(0));
        tower.rule(0, 0, 9, true);
        Check.fails(44, NONE, () -> tower.record(Integer.MAX_VALUE));
        for (int performance = 0; performance < 3; performance++) {
            tower.perform(0, performance);
        }
        Check.fails(44, NONE, () -> tower.record(99999));
        // the lowest number of one day, though told later
        tower.handIn(2, 4);
        Check.due(44, 2, tower.record(4));
        tower.handIn(1, 4);
        Check.due(44, 1, tower.record(4));
        tower.handIn(0, 5);
        Check.due(44, 1, tower.record(5));
        tower.handIn(0, 3);
        Check.due(44, 0, tower.record(5));
        Check.due(44, 0, tower.record(3));
        Check.fails(44, NONE, () -> tower.record(2));
        Check.fails(44, NONE, () -> tower.record(Integer.MIN_VALUE));
    }

    /** A longer one of a later day is the record only from that day on; each counts by the rule of its own day. */
    private static void recordsByTheirRules() {
        Changeringer tower = changesOf(0, 0);
        hireOneWhoForgets(tower, 99);
        tower.block();
        tower.again(1, 0, 2);
        tower.perform(0, 1);
        tower.perform(1, 1);
        tower.rule(0, 0, 0, true);
        tower.handIn(0, 10);
        tower.handIn(1, 11);
        Check.due(44, 0, tower.record(10));
        Check.due(21, false, tower.isLawful(1));
        // twice rounds and twice another row, but most rows never
        Check.due(44, 0, tower.record(11));
        Changeringer other = Check.minimus();
        for (int ringer = 0; ringer < 4; ringer++) {
            other.learn(other.ringer(1, 0, 99), 0, true);
        }
        Check.block(other, 0, "b");
        Check.block(other, 0, "ppp");
        other.perform(0, 1);
        other.perform(1, 1);
        other.rule(0, 0, 0, true);
        other.handIn(0, 10);
        other.handIn(1, 11);
        Check.due(44, 0, other.record(10));
        Check.due(44, 1, other.record(11));
        Check.due(44, 1, other.record(12));
        other.rule(11, 25, 0, true);
        Check.due(44, 0, other.record(12));
        other.rule(12, 0, 0, true);
        Check.due(44, 0, other.record(12));
        other.handIn(1, 12);
        Check.due(44, 1, other.record(12));
        Check.due(44, 0, other.record(11));
    }

    /** All with their slips mended, none, and one of three; handing in does not matter. */
    private static void sharesOfAll() {
        Changeringer tower = changesOf(0, 0, 2, 2);
        Check.fails(45, SHARE, () -> tower.mendedShare());
        hireOneWhoForgets(tower, 2);
        tower.setConductor(0);
        tower.perform(0, 5);
        Check.due(45, 0.0f, tower.mendedShare());
        tower.setConductor(3);
        tower.perform(0, 5);
        Check.due(45, 0.5f, tower.mendedShare());
        tower.setConductor(0);
        tower.perform(0, 5);
        Check.due(45, 1.0f / 3.0f, tower.mendedShare());
        for (int performance = 3; performance < 12; performance++) {
            tower.perform(0, 5);
        }
        Check.due(45, 1.0f / 12.0f, tower.mendedShare());
        tower.setBells(4);
        Check.fails(45, SHARE, () -> tower.mendedShare());
    }

    private static void soundInEachState() {
        Changeringer tower = changesOf();
        Check.due(47, true, tower.isSound());
        tower.lead(0, 0, 'p');
        Check.due(47, true, tower.isSound());
        tower.lead(0, 0, 'p');
        tower.lead(0, 0, 'p');
        tower.lead(0, 0, 'p');
        Check.due(47, true, tower.isSound());
        for (int block = 1; block < 10; block++) {
            tower.block();
            tower.again(block, block - 1, 20);
            Check.due(47, true, tower.isSound());
        }
        for (int ringer = 0; ringer < 4; ringer++) {
            hire(tower, 1, 3, 2);
        }
        tower.perform(1, 7);
        tower.lead(0, 1, 'p');
        Check.due(47, true, tower.isSound());
    }
}
