import java.math.BigInteger;
import java.util.NoSuchElementException;

/** The edges that are allowed, promises 1 to 30 and 46: the least and the greatest, what is empty, what is full. */
public final class EdgeTests {
    private static final Class<IllegalArgumentException> ARGUMENT = IllegalArgumentException.class;
    private static final Class<IllegalStateException> STATE = IllegalStateException.class;
    private static final Class<IndexOutOfBoundsException> INDEX = IndexOutOfBoundsException.class;
    private static final Class<NoSuchElementException> NONE = NoSuchElementException.class;

    public static void main(String[] args) {
        newTowers();
        lawfulChanges();
        fullBuffers();
        toldCalls();
        huntingOrNot();
        backward();
        orders();
        placesBrought();
        fullBlocks();
        greatestLength();
        rowsAtTheEnds();
        lastRowLeftOut();
        falseInOneLead();
        falseByTheirCalls();
        falseHeadsOfCalls();
        levelsAndLaws();
        oneRowMissing();
        splicesAndWork();
        struckByCallsOnly();
        patternsOfAllSizes();
        rowsAtHand();
        compositionsAtTheBounds();
        roomForCompositions();
        triedOnlyByFinding();
        countingAtTheBounds();
        wrappingSums();
        Check.end("EdgeTests");
    }

    /** A new tower has 6 bells; after any calls, all but the number of bells is as at first when that is set. */
    private static void newTowers() {
        String six = Looking.look(new Changeringer());
        Check.due(1, "", Looking.difference(six, Looking.look(Check.tower(6))));
        for (int bells = 4; bells <= 8; bells++) {
            Changeringer tower = new Changeringer();
            Check.due(2, 6, tower.setBells(bells));
            Check.due(2, bells, tower.setBells(bells));
            fill(tower, bells);
            String filled = Looking.look(tower);
            Check.due(2, 7, tower.setBells(12 - bells));
            fill(tower, 12 - bells);
            Check.due(2, 12 - bells, tower.setBells(6));
            Check.due(2, "", Looking.difference(six, Looking.look(tower)));
            // what is rung later is not touched by what was rung in an earlier tower
            tower.setBells(bells);
            fill(tower, bells);
            Check.due(2, "", Looking.difference(filled, Looking.look(tower)));
        }
    }

    private static void fill(Changeringer tower, int bells) {
        int pairs = bells % 2 == 0 ? 0 : 1;
        Check.method(tower, pairs);
        tower.setCall(0, 'b', 0, (1 << bells) - 4);
        tower.change(pairs);
        tower.seek(0, 1, 1, 2);
        Check.block(tower, 0, "pb");
        tower.isTrue(2, 3);
        tower.level(2);
        tower.wish(3);
        tower.pattern();
        tower.wish(3);
        for (int ringer = 0; ringer < 8; ringer++) {
            tower.ringer(9, ringer == 3 ? 30 : 3 * ringer, ringer == 0 ? 2 : 3 + ringer % 4);
            tower.learn(ringer, 0, true);
        }
        tower.setWeight(bells, 9);
        tower.setConductor(bells % 3);
        int often = tower.block();
        tower.again(often, 1, 7);
        tower.perform(often, 5);
        tower.perform(1, 6);
        tower.handIn(0, 3);
        tower.rule(0, 0, 99, true);
    }

    /** Of all sets of places, those are lawful that leave pairs of neighbours: as many as Fibonacci numbers, less 1. */
    private static void lawfulChanges() {
        int[] lawful = {4, 7, 12, 20, 33};
        for (int bells = 4; bells <= 8; bells++) {
            Changeringer tower = Check.tower(bells);
            int taken = 0;
            for (int places = -300; places <= 1100; places++) {
                taken += isTaken(tower, places) ? 1 : 0;
            }
            Check.due(3, lawful[bells - 4], taken);
            int all = (1 << bells) - 1;
            tower.method();
            for (int place = 0; place + 1 < bells; place++) {
                // but two bells change places, which is enough; one bell alone does not
                Check.due(3, place + 1, tower.change(all & ~(3 << place)));
                int one = all & ~(1 << place);
                Check.fails(3, ARGUMENT, () -> tower.change(one));
            }
            Check.fails(3, ARGUMENT, () -> tower.change(all));
            Check.fails(3, ARGUMENT, () -> tower.change(all + 1));
            Check.fails(3, ARGUMENT, () -> tower.change((all & ~3) + all + 1));
        }
    }

    private static boolean isTaken(Changeringer tower, int places) {
        try {
            tower.change(places);
            return true;
        } catch (IllegalArgumentException thrown) {
            return false;
        }
    }

    /** A method has 1 to 40 changes, and the buffer is empty behind each one. */
    private static void fullBuffers() {
        Changeringer tower = Check.tower(4);
        for (int method = 0; method < 6; method++) {
            int size = method % 2 == 0 ? 40 : 1;
            for (int change = 1; change <= size; change++) {
                Check.due(3, change, tower.change(change % 2 * 9));
            }
            if (size == 40) {
                Check.fails(3, STATE, () -> tower.change(9));
            }
            Check.due(4, method, tower.method());
            Check.fails(4, UnsupportedOperationException.class, () -> tower.method());
        }
        Check.block(tower, 0, "p");
        Check.block(tower, 1, "p");
        Check.due(4, 40L, tower.length(0));
        Check.due(4, 1L, tower.length(1));
        Check.due(4, "1324", Check.row(tower, 1, 1, 4));
        Check.due(4, "1324", Check.row(tower, 0, 1, 4));
        Check.due(4, "3142", Check.row(tower, 0, 2, 4));
    }

    /** Calls at the first and last change of a lead; bob and single are apart, of each the one told last is left. */
    private static void toldCalls() {
        Changeringer tower = Check.minimus();
        Check.method(tower, 9);
        Check.due(5, 9, tower.setCall(1, 'b', 0, 0));
        Check.due(5, 0, tower.setCall(1, 'b', 0, 9));
        Check.due(5, 9, tower.setCall(1, 's', 0, 12));
        Check.due(5, 9, tower.setCall(0, 'b', 7, 9));
        Check.due(5, 12, tower.setCall(0, 's', 7, 12));
        Check.due(5, 0, tower.setCall(0, 'b', 0, 3));
        // 2143 is rung as 1243 instead, the last change is 12 again
        int block = Check.block(tower, 0, "b");
        Check.due(5, "1243", Check.row(tower, block, 1, 4));
        Check.due(5, 3, tower.setCall(0, 'b', 0, 3));
        Check.due(5, 3, tower.setCall(0, 'b', 7, 3));
        Check.due(5, "2143", Check.row(tower, block, 1, 4));
        Check.due(5, 0, tower.setCall(0, 'b', 0, 0));
        Check.due(5, 12, tower.setCall(0, 's', 7, 12));
        // the plain lead stays
        Check.due(5, true, tower.isEven(0));
        Check.due(5, 3, tower.leads(0));
        Check.due(5, 4, tower.brings(0, 'p', 2));
    }

    /** Leads that are hunts but for one thing. */
    private static void huntingOrNot() {
        Changeringer four = Check.tower(4);
        // one time up and down and one time more: of more changes than twice the bells
        int twice = Check.method(four, 0, 9, 0, 9, 0, 9, 0, 9, 0, 9, 0, 9, 0, 9, 0, 9);
        Check.due(6, 't', four.kindOf(twice));
        // as long as a hunt, but the bell 1 goes away with the last change
        Check.due(6, 'l', four.kindOf(Check.method(four, 0, 9, 0, 9, 0, 9, 0, 0)));
        // as long as one, and the same backward, but by 1 1 2 3 3 2 1 1
        Check.due(6, 't', four.kindOf(Check.method(four, 3, 0, 9, 12, 9, 0, 3, 3)));
        // 1 1 2 2 1 1 is the same backward, 1 1 2 is not
        Check.due(6, 't', four.kindOf(Check.method(four, 3, 0, 3, 0, 3, 3)));
        Check.due(6, 'a', four.kindOf(Check.method(four, 3, 0, 0)));
        // one change alone, in which the bell 1 stays, and 40: five times 1 2 3 4 4 3 2 1, or 1 1 2 3 4 4 3 2
        Changeringer ends = Check.tower(4);
        Check.due(6, 't', ends.kindOf(Check.method(ends, 9)));
        int[] most = new int[40];
        int[] later = new int[40];
        for (int at = 0; at < 40; at++) {
            most[at] = at % 2 * 9;
            later[at] = 9 - at % 2 * 9;
        }
        Check.due(6, 't', ends.kindOf(Check.method(ends, most)));
        Check.due(6, 'a', ends.kindOf(Check.method(ends, later)));
        Check.due(7, true, ends.isEven(1));
        Changeringer five = Check.tower(5);
        Check.due(6, 'h', five.kindOf(Check.method(five, 16, 1, 16, 1, 16, 1, 16, 1, 16, 1)));
        Check.due(6, 'h', five.kindOf(Check.method(five, 28, 25, 19, 7, 16, 1, 16, 1, 16, 19)));
        Check.due(6, 'l', five.kindOf(Check.method(five, 16)));
        // 1 2 1 2 1 1 2 1 2 1, and 1 2 1 2 1 1 1 2 1 2
        Check.due(6, 't', five.kindOf(Check.method(five, 16, 16, 16, 16, 1, 16, 16, 16, 16, 1)));
        Check.due(6, 'a', five.kindOf(Check.method(five, 16, 16, 16, 16, 1, 1, 16, 16, 16, 16)));
        Changeringer eight = Check.tower(8);
        int[] hunt = new int[16];
        for (int at = 0; at < 16; at++) {
            hunt[at] = at % 2 * 129;
        }
        Check.due(6, 'h', eight.kindOf(Check.method(eight, hunt)));
        // up to the place 7 only: 14 changes
        int[] shorter = {0, 129, 0, 129, 0, 129, 192, 129, 0, 129, 0, 129, 0, 129};
        Check.due(6, 't', eight.kindOf(Check.method(eight, shorter)));
    }

    /** The last change does not count; a lead of one or two changes is always even. */
    private static void backward() {
        Changeringer tower = Check.tower(4);
        Check.due(7, true, tower.isEven(Check.method(tower, 9)));
        Check.due(7, true, tower.isEven(Check.method(tower, 9, 0)));
        Check.due(7, true, tower.isEven(Check.method(tower, 9, 9, 0)));
        Check.due(7, false, tower.isEven(Check.method(tower, 9, 0, 9)));
        Check.due(7, false, tower.isEven(Check.method(tower, 0, 9, 3, 12, 3, 0, 9, 0)));
        Check.due(7, true, tower.isEven(Check.method(tower, 0, 9, 3, 12, 3, 9, 0, 12)));
    }

    /** The plain course has from 1 lead to 15, and the bells are parted into 0 to 4 rings. */
    private static void orders() {
        Changeringer eight = Check.tower(8);
        // the bells 1 to 3 go round, and 4 to 8
        Check.method(eight, 132, 9);
        Check.due(8, 15, eight.leads(0));
        Check.due(9, 2, eight.rings(0));
        Check.method(eight, 0);
        Check.due(8, 2, eight.leads(1));
        Check.due(9, 4, eight.rings(1));
        Check.method(eight, 129, 129);
        Check.due(8, 1, eight.leads(2));
        Check.due(9, 0, eight.rings(2));
        Check.method(eight, 252);
        Check.due(9, 1, eight.rings(3));
        Check.method(eight, 63);
        Check.due(9, 1, eight.rings(4));
        Changeringer seven = Check.tower(7);
        // the bells 1 to 3, and 4 to 7
        Check.method(seven, 4, 73);
        Check.due(8, 12, seven.leads(0));
        Check.due(9, 2, seven.rings(0));
        Changeringer four = Check.tower(4);
        Check.method(four, 0, 9);
        Check.due(8, 4, four.leads(0));
        Check.due(9, 1, four.rings(0));
    }

    private static void placesBrought() {
        Changeringer eight = Check.tower(8);
        Check.method(eight, 0);
        eight.setCall(0, 'b', 0, 129);
        Check.due(10, 2, eight.brings(0, 'p', 1));
        Check.due(10, 7, eight.brings(0, 'p', 8));
        Check.due(10, 1, eight.brings(0, 'b', 1));
        Check.due(10, 8, eight.brings(0, 'b', 8));
        Check.due(10, 7, eight.brings(0, 's', 8));
        // the place at the next head, not the bell that comes to this place: 2 goes to 4, 4 to 3, 3 to 2
        Check.due(10, 4, Check.minimus().brings(0, 'p', 2));
        Check.due(10, 3, Check.minimus().brings(0, 'p', 4));
        Check.due(10, 2, Check.minimus().brings(0, 'p', 3));
    }

    /** Ten blocks, those that seeking adds among them; 20 items of both sorts; 1 and 20 times; the block just below. */
    private static void fullBlocks() {
        Changeringer tower = Check.tower(4);
        Check.method(tower, 0);
        for (int block = 0; block < 8; block++) {
            Check.due(11, block, tower.block());
        }
        Check.due(11, 9, tower.seek(0, 1, 1, 2));
        Check.fails(11, STATE, () -> tower.block());
        Check.due(12, 2, tower.lead(8, 0, 'p'));
        for (int item = 2; item <= 19; item++) {
            Check.due(item % 2 + 12, item, item % 2 == 0 ? tower.lead(9, 0, 'b') : tower.again(9, 8, item));
        }
        Check.due(13, 20, tower.again(9, 0, 20));
        Check.fails(12, STATE, () -> tower.lead(9, 0, 'p'));
        Check.fails(13, STATE, () -> tower.again(9, 0, 20));
        // 9 leads, the block 8, of two leads, 2 times and 3, 5, .. 19 times, and one without changes
        Check.due(14, 9 + 2 * 2 + 2L * (3 + 5 + 7 + 9 + 11 + 13 + 15 + 17 + 19), tower.length(9));
    }

    /** 999999999 changes, and one more, and one more still. */
    private static void greatestLength() {
        Changeringer tower = Check.tower(4);
        Check.method(tower, 0);
        Check.block(tower, 0, "p");
        for (int block = 1; block < 9; block++) {
            tower.block();
            tower.again(block, block - 1, 10);
        }
        int whole = tower.block();
        for (int block = 0; block < 9; block++) {
            tower.again(whole, block, 9);
        }
        Check.due(14, 999999999L, tower.length(whole));
        tower.lead(whole, 0, 'p');
        Check.due(14, 1000000000L, tower.length(whole));
        tower.lead(whole, 0, 'p');
        Check.due(14, 1000000000L, tower.length(whole));
        for (int item = 12; item <= 20; item++) {
            tower.again(whole, 8, 20);
        }
        Check.due(14, 1000000000L, tower.length(whole));
        // a block that has ones that are too long already, and an empty one
        Changeringer empty = Check.tower(4);
        empty.block();
        Check.due(14, 0L, empty.length(0));
    }

    private static void rowsAtTheEnds() {
        Changeringer tower = Check.tower(5);
        Check.method(tower, 16, 1);
        Check.block(tower, 0, "p");
        Check.due(15, "12345", Check.row(tower, 0, 0, 5));
        Check.due(15, "21435", Check.row(tower, 0, 1, 5));
        Check.due(15, "24153", Check.row(tower, 0, 2, 5));
        Check.fails(15, INDEX, () -> tower.bellAt(0, 3, 1));
        Check.due(16, false, tower.comesRound(0));
        tower.block();
        Check.due(15, "12345", Check.row(tower, 1, 0, 5));
        Check.fails(15, INDEX, () -> tower.bellAt(1, 1, 1));
        Check.due(16, true, tower.comesRound(1));
        tower.again(1, 0, 5);
        Check.due(16, true, tower.comesRound(1));
        Check.due(15, "13254", Check.row(tower, 1, 9, 5));
        Check.due(15, "12345", Check.row(tower, 1, 10, 5));
        Check.fails(15, INDEX, () -> tower.bellAt(1, 11, 1));
    }

    /** The last row may be like any other one; the row ahead of it may not. */
    private static void lastRowLeftOut() {
        Changeringer tower = Check.tower(4);
        Check.method(tower, 0, 9, 9);
        Check.method(tower, 9);
        Check.block(tower, 0, "p");
        for (int way = 1; way <= 3; way++) {
            Check.due(17, true, tower.isTrue(0, way));
        }
        Check.fails(18, NONE, () -> tower.firstFalse(0));
        Check.due(20, 1, tower.level(0));
        Check.due(16, false, tower.comesRound(0));
        Check.due(21, false, tower.isLawful(0));
        tower.lead(0, 1, 'p');
        for (int way = 1; way <= 3; way++) {
            Check.due(17, false, tower.isTrue(0, way));
        }
        Check.due(18, 3, tower.firstFalse(0));
        Check.due(20, 2, tower.level(0));
        // the first one of several
        tower.lead(0, 1, 'p');
        tower.lead(0, 1, 'p');
        Check.due(18, 3, tower.firstFalse(0));
        Check.due(20, 3, tower.level(0));
    }

    /** A lead that has a row twice is false, alone too; one whose head comes again only behind it is not. */
    private static void falseInOneLead() {
        Changeringer tower = Check.tower(4);
        Check.method(tower, 0, 0, 9);
        Check.method(tower, 0, 0);
        Check.block(tower, 0, "p");
        Check.block(tower, 1, "p");
        for (int way = 1; way <= 3; way++) {
            Check.due(17, false, tower.isTrue(0, way));
            Check.due(17, true, tower.isTrue(1, way));
        }
        // by a bob alone, and not by the plain lead
        tower.setCall(1, 'b', 1, 9);
        tower.lead(1, 1, 'b');
        tower.setCall(0, 'b', 1, 9);
        Check.block(tower, 0, "b");
        for (int way = 1; way <= 3; way++) {
            Check.due(17, false, tower.isTrue(1, way));
            Check.due(17, true, tower.isTrue(2, way));
        }
        Check.due(18, 2, tower.firstFalse(1));
    }

    /** Each lead is false by its own rows, not by those of the plain lead, nor by those of another call. */
    private static void falseByTheirCalls() {
        Changeringer tower = Check.tower(4);
        Check.method(tower, 9, 12, 0);
        tower.setCall(0, 'b', 1, 3);
        tower.setCall(0, 's', 1, 3);
        // 1234 1324 1342, 3124 3214 2314; plainly 1234 1324 3124
        Check.block(tower, 0, "bp");
        Check.block(tower, 0, "sp");
        for (int way = 1; way <= 3; way++) {
            Check.due(17, true, tower.isTrue(0, way));
            Check.due(17, true, tower.isTrue(1, way));
        }
    }

    /** False against rounds itself at least; the heads are those by which rows of both kinds are alike. */
    private static void falseHeadsOfCalls() {
        Changeringer tower = Check.tower(4);
        Check.method(tower, 0, 9);
        tower.setCall(0, 'b', 0, 9);
        tower.setCall(0, 's', 1, 0);
        // rows 1234 2143 against 1234 1324: heads 1234, 2143, 1324 and that of which 1324 is 2143
        Check.due(19, 4, tower.falseHeads(0, 'p', 0, 'b'));
        Check.due(19, 4, tower.falseHeads(0, 'b', 0, 'p'));
        // the last change of a lead brings no row of it
        Check.due(19, 2, tower.falseHeads(0, 'p', 0, 's'));
        Check.due(19, 2, tower.falseHeads(0, 's', 0, 's'));
        // all 40 rows of each are among two rows
        Changeringer eight = Check.tower(8);
        int[] same = new int[40];
        Check.method(eight, same);
        Check.due(19, 2, eight.falseHeads(0, 'p', 0, 'p'));
    }

    private static void levelsAndLaws() {
        Changeringer tower = Check.minimus();
        tower.block();
        Check.due(20, 0, tower.level(0));
        Check.due(21, true, tower.isLawful(0));
        tower.lead(0, 0, 'b');
        Check.due(20, 1, tower.level(0));
        Check.due(21, true, tower.isLawful(0));
        tower.lead(0, 0, 'b');
        // no row more than twice, but others not at all
        Check.due(20, 2, tower.level(0));
        Check.due(21, false, tower.isLawful(0));
        // each row once but for those of the bob, which come twice: a second time is once more often
        Check.block(tower, 0, "pppb");
        Check.due(20, 2, tower.level(1));
        Check.due(21, true, tower.isLawful(1));
        tower.lead(1, 0, 'b');
        Check.due(20, 3, tower.level(1));
        Check.due(21, false, tower.isLawful(1));
        // lawful in its rows, but it does not come round
        Check.block(tower, 0, "pppp");
        Check.due(21, false, tower.isLawful(2));
    }

    /** 4 bells, and blocks of leads of one change: by their numbers all change, 1 and 4 stay, 1 and 2, 3 and 4. */
    private static Changeringer walks(int[]... walks) {
        Changeringer tower = Check.tower(4);
        for (int places : new int[] {0, 9, 3, 12}) {
            Check.method(tower, places);
        }
        for (int[] walk : walks) {
            int block = tower.block();
            for (int method : walk) {
                tower.lead(block, method, 'p');
            }
        }
        return tower;
    }

    /** All rows but one, so many times, and this one never, or once: the first of the list, the second, the last. */
    private static void oneRowMissing() {
        // the two halves of a way through 23 rows, and the same with the row that is missing
        int[][] withoutLast = {{0, 1, 0, 2, 0, 1, 0, 1, 0, 1, 0, 2}, {0, 1, 0, 1, 0, 1, 0, 3, 1, 0, 1},
            {0, 1, 0, 2, 0, 1, 0, 1, 0, 1, 0, 2}, {0, 1, 0, 1, 0, 1, 0, 2, 0, 1, 0, 1}};
        int[][] withoutSecond = {{0, 1, 0, 1, 0, 1, 0, 2, 0, 1, 0, 1}, {0, 1, 0, 2, 0, 1, 0, 1, 0, 1, 3},
            {2, 3, 1, 0, 1, 0, 1, 0, 2, 0, 1, 0, 1}, {0, 1, 0, 2, 0, 1, 0, 1, 0, 1, 3}};
        for (int[][] walk : new int[][][] {withoutLast, withoutSecond}) {
            Changeringer tower = walks(walk);
            int once = tower.block();
            tower.again(once, 0, 1);
            tower.again(once, 1, 1);
            Check.due(14, 23L, tower.length(once));
            Check.due(20, 1, tower.level(once));
            Check.due(21, true, tower.isLawful(once));
            int often = tower.block();
            tower.again(often, once, 2);
            Check.due(16, true, tower.comesRound(often));
            Check.due(20, 2, tower.level(often));
            Check.due(21, false, tower.isLawful(often));
            int all = tower.block();
            tower.again(all, once, 1);
            tower.again(all, 2, 1);
            tower.again(all, 3, 1);
            Check.due(14, 47L, tower.length(all));
            Check.due(20, 2, tower.level(all));
            Check.due(21, true, tower.isLawful(all));
            tower.again(all, once, 1);
            Check.due(20, 3, tower.level(all));
            Check.due(21, false, tower.isLawful(all));
        }
        // rounds, then the other rows from 1243 to 2143, and these again from 1243 on
        int[][] others = {{0, 1, 0, 1, 0, 1, 0, 2, 0, 1, 0, 1}, {0, 1, 0, 2, 0, 1, 0, 1, 0, 1}};
        Changeringer tower = walks(others);
        for (int times = 1; times <= 3; times++) {
            int rest = tower.block();
            tower.lead(rest, 2, 'p');
            for (int time = 1; time <= times; time++) {
                tower.again(rest, 0, 1);
                tower.again(rest, 1, 1);
                tower.lead(rest, time < times ? 3 : 0, 'p');
            }
            Check.due(14, 23L * times + 1, tower.length(rest));
            Check.due(16, true, tower.comesRound(rest));
            Check.due(20, times, tower.level(rest));
            Check.due(21, times <= 2, tower.isLawful(rest));
        }
    }

    private static void splicesAndWork() {
        Changeringer tower = Check.spliced();
        tower.block();
        Check.due(22, 0, tower.changesOfMethod(0));
        Check.due(23, 0, tower.work(0, 0));
        tower.lead(0, 0, 'p');
        Check.due(22, 0, tower.changesOfMethod(0));
        // the bells 2 to 4 in their places; the bell 1 too in a principle
        Check.due(23, 3, tower.work(0, 0));
        Check.due(23, 0, tower.work(0, 1));
        tower.lead(0, 1, 's');
        Check.due(22, 1, tower.changesOfMethod(0));
        Check.due(23, 4, tower.work(0, 1));
        // the row behind the last lead is no head
        Check.due(23, 3, tower.work(0, 0));
        // another call is not another method; a called lead is work like a plain one: the heads 1342 and 3124
        Changeringer calls = Check.minimus();
        Check.block(calls, 0, "bs");
        Check.due(22, 0, calls.changesOfMethod(0));
        Check.due(23, 3, calls.work(0, 0));
        Check.block(calls, 0, "pb");
        Check.due(23, 6, calls.work(1, 0));
        Check.block(calls, 0, "ppp");
        Check.due(23, 9, calls.work(2, 0));
        // a bob of a principle that keeps the bell 1 in its place leaves it a principle
        Changeringer kept = Check.tower(4);
        Check.method(kept, 0);
        kept.setCall(0, 'b', 0, 3);
        Check.block(kept, 0, "b");
        Check.due(23, 4, kept.work(0, 0));
        // and a hunt with a bob that brings the bell 1 away does not become one
        Changeringer away = Check.minimus();
        away.setCall(0, 'b', 7, 0);
        Check.block(away, 0, "bp");
        Check.due(23, 6, away.work(0, 0));
    }

    private static void struckByCallsOnly() {
        Changeringer tower = Check.minimus();
        tower.block();
        for (int bell = 1; bell <= 4; bell++) {
            Check.due(24, 0, tower.struck(0, bell));
        }
        // the single 1234 instead of 12, behind 1324: 1342 plainly, 3124 with the single
        tower.lead(0, 0, 's');
        int[] struck = {1, 1, 1, 1};
        for (int bell = 1; bell <= 4; bell++) {
            Check.due(24, struck[bell - 1], tower.struck(0, bell));
        }
        // a bob at another change than the last one strikes by where bells are behind the lead
        tower.setCall(0, 'b', 0, 3);
        Check.block(tower, 0, "b");
        int[] bob = new int[4];
        for (int place = 1; place <= 4; place++) {
            bob[place - 1] = tower.brings(0, 'p', place) == tower.brings(0, 'b', place) ? 0 : 1;
            Check.due(24, bob[place - 1], tower.struck(1, place));
        }
        Check.due(24, 2, bob[0] + bob[1] + bob[2] + bob[3]);
    }

    /** Patterns of no place, of some and of all; any bell often, each bell once. */
    private static void patternsOfAllSizes() {
        for (int bells = 4; bells <= 8; bells++) {
            Changeringer tower = Check.tower(bells);
            Check.due(26, 0, tower.pattern());
            for (int place = 1; place <= bells; place++) {
                Check.due(25, place, tower.wish(bells + 1 - place));
            }
            Check.fails(25, ARGUMENT, () -> tower.wish(1));
            Check.fails(25, STATE, () -> tower.wish(0));
            Check.due(26, 1, tower.pattern());
            for (int place = 1; place < bells; place++) {
                Check.due(25, place, tower.wish(0));
            }
            Check.due(25, bells, tower.wish(bells));
            Check.fails(25, STATE, () -> tower.wish(1));
            Check.due(26, 2, tower.pattern());
            Check.due(25, 1, tower.wish(bells));
        }
    }

    /** The row 1 is at hand, the row 2 at back; the row 0 is none of both, the last one is. */
    private static void rowsAtHand() {
        Changeringer tower = Check.tower(4);
        Check.method(tower, 0);
        tower.pattern();
        for (int bell = 1; bell <= 4; bell++) {
            tower.wish(bell);
        }
        tower.pattern();
        tower.wish(2);
        tower.pattern();
        tower.wish(0);
        tower.wish(0);
        tower.wish(4);
        tower.pattern();
        int[][] due = {{0, 0, 0, 0}, {1, 0, 1, 1}, {2, 1, 1, 1}, {3, 1, 2, 2}};
        tower.block();
        for (int length = 0; length <= 3; length++) {
            Check.due(27, due[length][0], tower.music(0, 0, 'a'));
            Check.due(27, due[length][1], tower.music(0, 1, 'a'));
            Check.due(27, due[length][1], tower.music(0, 1, 'b'));
            Check.due(27, 0, tower.music(0, 1, 'h'));
            Check.due(27, due[length][2], tower.music(0, 2, 'h'));
            Check.due(27, 0, tower.music(0, 2, 'b'));
            Check.due(27, due[length][3], tower.music(0, 3, 'a'));
            Check.due(27, (length + 1) / 2, tower.music(0, 0, 'h'));
            Check.due(27, length / 2, tower.music(0, 0, 'b'));
            tower.lead(0, 0, 'p');
        }
    }

    /** One lead and 20, once and 6 times, by p alone and by all calls. */
    private static void compositionsAtTheBounds() {
        // the bells 1 and 2 change places in a lead, and 3 to 5 go round: the sixth lead comes round
        Changeringer tower = Check.tower(5);
        Check.method(tower, 16, 7);
        Check.due(28, 1, tower.seek(0, 1, 1, 6));
        Check.due(29, 1, tower.tried());
        Check.due(28, 2L, tower.length(0));
        Check.due(28, 12L, tower.length(1));
        Check.due(28, true, tower.isTrue(1, 1));
        // in three times it comes round in the last and not earlier, but not as one lead in another number of times
        for (int times = 1; times <= 5; times++) {
            int often = times;
            Check.fails(28, NONE, () -> tower.seek(0, 1, 1, often));
        }
        Check.due(28, 3, tower.seek(0, 2, 3, 3));
        Check.due(28, 5, tower.seek(0, 3, 1, 2));
        Check.due(28, 6, tower.seek(0, 6, 1, 1));
        Check.fails(28, NONE, () -> tower.seek(0, 2, 1, 6));
        Check.fails(28, NONE, () -> tower.seek(0, 12, 1, 1));
        // 20 leads of one change each
        Changeringer four = Check.tower(4);
        Check.method(four, 0);
        four.setCall(0, 'b', 0, 9);
        four.setCall(0, 's', 0, 3);
        int found = four.seek(0, 20, 3, 1);
        Check.due(28, 20L, four.length(found));
        Check.due(28, true, four.isTrue(found, 1));
        Check.due(28, true, four.comesRound(found));
        // 3000 changes just may be sought, here without finding any
        Check.method(four, new int[40]);
        Check.fails(28, NONE, () -> four.seek(1, 15, 3, 5));
    }

    /** A block is added for one time, two for more: up to ten, the last one numbered 9. */
    private static void roomForCompositions() {
        Changeringer tower = Check.tower(4);
        Check.method(tower, 0);
        for (int block = 0; block < 8; block++) {
            tower.block();
        }
        Check.due(28, 9, tower.seek(0, 1, 1, 2));
        Check.due(28, 1L, tower.length(8));
        Check.due(28, 2L, tower.length(9));
        Changeringer nine = Check.tower(4);
        Check.method(nine, 0);
        for (int block = 0; block < 9; block++) {
            nine.block();
        }
        Check.fails(28, STATE, () -> nine.seek(0, 1, 1, 2));
        Check.due(28, 9, nine.seek(0, 2, 1, 1));
        Check.due(28, 2L, nine.length(9));
        Check.fails(28, STATE, () -> nine.seek(0, 2, 1, 1));
    }

    private static void triedOnlyByFinding() {
        Changeringer tower = Check.tower(4);
        Check.method(tower, 0);
        Check.due(29, 0, tower.tried());
        Check.fails(28, NONE, () -> tower.seek(0, 1, 1, 1));
        Check.due(29, 0, tower.tried());
        tower.seek(0, 2, 1, 1);
        Check.due(29, 2, tower.tried());
        tower.count(0, 1, 1);
        Check.due(29, 2, tower.tried());
        Check.fails(28, NONE, () -> tower.seek(0, 1, 3, 1));
        Check.fails(28, ARGUMENT, () -> tower.seek(0, 21, 3, 1));
        Check.due(29, 2, tower.tried());
        tower.seek(0, 1, 1, 2);
        Check.due(29, 1, tower.tried());
        tower.setBells(4);
        Check.due(29, 0, tower.tried());
    }

    private static void countingAtTheBounds() {
        Changeringer tower = Check.tower(5);
        Check.method(tower, 16, 7);
        Check.due(30, 0L, tower.count(0, 1, 1));
        Check.due(30, 1L, tower.count(0, 6, 1));
        // each lead may be called as the plain one is
        Check.due(30, 64L, tower.count(0, 6, 2));
        Check.due(30, 729L, tower.count(0, 6, 3));
        Check.due(30, 0L, tower.count(0, 12, 1));
        // 12 leads round: p alone
        Changeringer seven = Check.tower(7);
        Check.method(seven, 4, 73);
        Check.due(30, 1L, seven.count(0, 12, 1));
        // counting adds nothing
        Check.due(30, 0, seven.block());
    }

    /** The sum is that of all rows, modulo 2 to the power of 64. */
    private static void wrappingSums() {
        Changeringer tower = Check.major();
        Check.block(tower, 0, "ppppppp");
        tower.block();
        tower.again(1, 0, 20);
        tower.again(1, 0, 6);
        Check.due(46, 2912L, tower.length(1));
        BigInteger sum = BigInteger.ZERO;
        for (int row = 0; row <= 2912; row++) {
            sum = sum.multiply(BigInteger.valueOf(31)).add(BigInteger.valueOf(placeInList(tower, 1, row)));
            if (row == 112) {
                Check.due(46, sum.longValue(), tower.checksum(0));
            }
        }
        Check.due(46, sum.longValue(), tower.checksum(1));
    }

    private static int placeInList(Changeringer tower, int block, int row) {
        int place = 0;
        for (int at = 1; at <= 8; at++) {
            int lower = 0;
            for (int behind = at + 1; behind <= 8; behind++) {
                lower += tower.bellAt(block, row, behind) < tower.bellAt(block, row, at) ? 1 : 0;
            }
            place = place * (9 - at) + lower;
        }
        return place;
    }
}
