import java.util.NoSuchElementException;
import java.util.function.Function;
import java.util.function.Supplier;

/**
 * Each "Throws" row of the promises 2 to 46: the numbers just out of range and the farthest ones, which exception
 * comes first if several conditions apply, and that a call that is refused changes nothing.
 */
public final class RefusalTests {
    private static final Class<IllegalArgumentException> ARGUMENT = IllegalArgumentException.class;
    private static final Class<IllegalStateException> STATE = IllegalStateException.class;
    private static final Class<IndexOutOfBoundsException> INDEX = IndexOutOfBoundsException.class;
    private static final Class<UnsupportedOperationException> SUPPORT = UnsupportedOperationException.class;
    private static final Class<NoSuchElementException> NONE = NoSuchElementException.class;
    private static final Class<ArithmeticException> SHARE = ArithmeticException.class;
    private static final int LEAST = Integer.MIN_VALUE;
    private static final int MOST = Integer.MAX_VALUE;

    private static Supplier<Changeringer> state;
    private static String untouched;

    public static void main(String[] args) {
        begin(() -> Check.tower(4));
        ofEmptyTower();
        begin(RefusalTests::busy);
        ofTowerAndMethods();
        ofBlocks();
        ofQuestionsOnBlocks();
        ofMusic();
        ofCompositions();
        ofRingers();
        ofPerformances();
        ofSociety();
        begin(RefusalTests::full);
        ofFullTower();
        begin(RefusalTests::tooLong);
        ofTooLongBlock();
        begin(RefusalTests::manyLeads);
        ofTooManyLeads();
        Check.end("RefusalTests");
    }

    private static void begin(Supplier<Changeringer> made) {
        state = made;
        untouched = Looking.look(state.get());
    }

    private static void refused(int promise, Class<? extends RuntimeException> want,
            Function<Changeringer, Object> call) {
        Changeringer tower = state.get();
        Check.fails(promise, want, () -> call.apply(tower));
        Check.due(promise, "", Looking.difference(untouched, Looking.look(tower)));
    }

    /** 4 bells: methods 0 and 1, a buffer of two changes, blocks 0 to 3, and some of all else. */
    private static Changeringer busy() {
        Changeringer tower = Check.minimus();
        Check.method(tower, 0);
        tower.change(9);
        tower.change(0);
        Check.block(tower, 0, "ppp");
        tower.seek(1, 1, 1, 2);
        Check.block(tower, 0, "pb");
        tower.wish(2);
        tower.pattern();
        tower.wish(0);
        tower.wish(3);
        for (int ringer = 0; ringer < 5; ringer++) {
            tower.ringer(3 + ringer % 2, ringer, 4 + ringer);
            tower.learn(ringer, 0, true);
        }
        tower.learn(4, 1, true);
        tower.setWeight(2, 3);
        tower.setConductor(1);
        tower.perform(0, 7);
        tower.rule(5, 0, 99, true);
        tower.handIn(0, 10);
        tower.perform(0, 8);
        return tower;
    }

    /** As many of all as there can be: the block 9 has 20 items, and the ringer 0 has forgotten the method 0. */
    private static Changeringer full() {
        Changeringer tower = Check.tower(4);
        for (int method = 0; method < 6; method++) {
            Check.method(tower, method % 2 * 9);
        }
        for (int change = 0; change < 40; change++) {
            tower.change(change % 2 * 9);
        }
        Check.block(tower, 0, "pp");
        for (int block = 1; block < 9; block++) {
            tower.block();
        }
        Check.block(tower, 1, "pppppppppppppppppppp");
        for (int place = 0; place < 4; place++) {
            tower.wish(place == 0 ? 2 : 0);
        }
        for (int pattern = 0; pattern < 8; pattern++) {
            tower.pattern();
        }
        for (int place = 0; place < 4; place++) {
            tower.wish(place == 0 ? 2 : 0);
        }
        for (int ringer = 0; ringer < 12; ringer++) {
            tower.ringer(1, 0, 99);
            tower.learn(ringer, 0, ringer < 4);
        }
        for (int performance = 0; performance < 12; performance++) {
            tower.perform(0, performance);
        }
        for (int rule = 0; rule < 10; rule++) {
            tower.rule(rule, 0, 0, false);
        }
        return tower;
    }

    /** The block 2 has 3001 changes. */
    private static Changeringer tooLong() {
        Changeringer tower = Check.tower(4);
        Check.method(tower, 0);
        Check.block(tower, 0, "pppppppppp");
        tower.block();
        tower.again(1, 0, 20);
        tower.block();
        tower.again(2, 1, 15);
        tower.lead(2, 0, 'p');
        tower.pattern();
        return tower;
    }

    /** Nine blocks, and methods by which seeking and counting try too many leads, or make too many changes. */
    private static Changeringer manyLeads() {
        Changeringer tower = Check.major();
        int[] changes = new int[36];
        for (int at = 0; at < 36; at++) {
            changes[at] = at % 2 * 129;
        }
        Check.method(tower, changes);
        tower.seek(0, 7, 1, 1);
        for (int block = 1; block < 8; block++) {
            tower.block();
        }
        return tower;
    }

    private static void ofEmptyTower() {
        refused(4, SUPPORT, t -> t.method());
        refused(5, INDEX, t -> t.setCall(0, 'x', 0, 1));
        refused(6, INDEX, t -> t.kindOf(0));
        refused(7, INDEX, t -> t.isEven(0));
        refused(8, INDEX, t -> t.leads(0));
        refused(9, INDEX, t -> t.rings(0));
        refused(10, INDEX, t -> t.brings(0, 'x', 0));
        refused(12, INDEX, t -> t.lead(0, 0, 'x'));
        refused(13, INDEX, t -> t.again(0, 0, 0));
        refused(14, INDEX, t -> t.length(0));
        refused(15, INDEX, t -> t.bellAt(0, 0, 1));
        refused(16, INDEX, t -> t.comesRound(0));
        refused(17, INDEX, t -> t.isTrue(0, 0));
        refused(18, INDEX, t -> t.firstFalse(0));
        refused(19, INDEX, t -> t.falseHeads(0, 'x', 0, 'x'));
        refused(20, INDEX, t -> t.level(0));
        refused(21, INDEX, t -> t.isLawful(0));
        refused(22, INDEX, t -> t.changesOfMethod(0));
        refused(23, INDEX, t -> t.work(0, 0));
        refused(24, INDEX, t -> t.struck(0, 1));
        refused(27, INDEX, t -> t.music(0, 0, 'x'));
        refused(28, INDEX, t -> t.seek(0, 0, 0, 0));
        refused(30, INDEX, t -> t.count(0, 0, 0));
        refused(32, INDEX, t -> t.learn(0, 0, true));
        refused(34, INDEX, t -> t.setConductor(0));
        refused(35, INDEX, t -> t.ringerFor(0, 1));
        refused(36, INDEX, t -> t.bands(0));
        refused(37, INDEX, t -> t.perform(0, -1));
        refused(38, INDEX, t -> t.rungAt(0, 0, 1));
        refused(39, INDEX, t -> t.tell(0, 'x'));
        refused(40, INDEX, t -> t.meanError(0));
        refused(42, INDEX, t -> t.handIn(0, -1));
        refused(43, INDEX, t -> t.counts(0));
        refused(44, NONE, t -> t.record(0));
        refused(45, SHARE, t -> t.mendedShare());
        refused(46, INDEX, t -> t.checksum(0));
    }

    private static void ofTowerAndMethods() {
        for (int bells : new int[] {3, 9, 0, -4, LEAST, MOST}) {
            refused(2, ARGUMENT, t -> t.setBells(bells));
        }
        // 1 and 4 bells left beside others that stay, all that stay, places that are not there
        for (int places : new int[] {1, 2, 4, 5, 6 + 8, 15, 16, 25, 32, -1, -16, LEAST, LEAST + 9, MOST}) {
            refused(3, ARGUMENT, t -> t.change(places));
            refused(5, ARGUMENT, t -> t.setCall(0, 'b', 0, places));
        }
        for (int method : new int[] {2, -1, 6, LEAST, MOST}) {
            refused(5, INDEX, t -> t.setCall(method, 'b', 0, 0));
            refused(5, INDEX, t -> t.setCall(method, 'p', 99, 1));
            refused(6, INDEX, t -> t.kindOf(method));
            refused(7, INDEX, t -> t.isEven(method));
            refused(8, INDEX, t -> t.leads(method));
            refused(9, INDEX, t -> t.rings(method));
            refused(10, INDEX, t -> t.brings(method, 'p', 1));
            refused(10, INDEX, t -> t.brings(method, 'x', 0));
        }
        for (int at : new int[] {8, -1, 40, LEAST, MOST}) {
            refused(5, INDEX, t -> t.setCall(0, 'b', at, 0));
            refused(5, INDEX, t -> t.setCall(0, 'x', at, 1));
        }
        // a change that the lead of another method has
        refused(5, INDEX, t -> t.setCall(1, 'b', 1, 0));
        for (char call : wrongCalls("p")) {
            refused(5, ARGUMENT, t -> t.setCall(0, call, 7, 0));
        }
        for (int place : new int[] {0, 5, -1, LEAST, MOST}) {
            refused(10, INDEX, t -> t.brings(0, 'p', place));
            refused(10, INDEX, t -> t.brings(0, 'x', place));
        }
        for (char call : wrongCalls("")) {
            refused(10, ARGUMENT, t -> t.brings(0, call, 1));
        }
    }

    /** Signs beside those that are calls, in another case, and the first and last of all; more of them if wanted. */
    private static char[] wrongCalls(String more) {
        return ("aoqtcrBPS" + (char) 0 + (char) 65535 + more).toCharArray();
    }

    private static void ofBlocks() {
        for (int block : new int[] {4, -1, 10, LEAST, MOST}) {
            refused(12, INDEX, t -> t.lead(block, 0, 'p'));
            refused(12, INDEX, t -> t.lead(block, 0, 'x'));
            refused(13, INDEX, t -> t.again(block, 0, 1));
            refused(13, INDEX, t -> t.again(3, block, 1));
            refused(13, INDEX, t -> t.again(3, block, 0));
            refused(14, INDEX, t -> t.length(block));
        }
        for (int method : new int[] {2, -1, 6, LEAST, MOST}) {
            refused(12, INDEX, t -> t.lead(0, method, 'p'));
            refused(12, INDEX, t -> t.lead(0, method, 'x'));
        }
        for (char call : wrongCalls("")) {
            refused(12, ARGUMENT, t -> t.lead(0, 0, call));
        }
        for (int times : new int[] {0, 21, -1, LEAST, MOST}) {
            refused(13, ARGUMENT, t -> t.again(3, 0, times));
        }
        // the block itself, the one above it, and the highest
        refused(13, ARGUMENT, t -> t.again(1, 1, 1));
        refused(13, ARGUMENT, t -> t.again(1, 2, 1));
        refused(13, ARGUMENT, t -> t.again(0, 3, 1));
        refused(13, ARGUMENT, t -> t.again(0, 0, 0));
    }

    private static void ofQuestionsOnBlocks() {
        for (int block : new int[] {4, -1, 10, LEAST, MOST}) {
            refused(15, INDEX, t -> t.bellAt(block, 0, 1));
            refused(16, INDEX, t -> t.comesRound(block));
            refused(17, INDEX, t -> t.isTrue(block, 1));
            refused(17, INDEX, t -> t.isTrue(block, 0));
            refused(18, INDEX, t -> t.firstFalse(block));
            refused(20, INDEX, t -> t.level(block));
            refused(21, INDEX, t -> t.isLawful(block));
            refused(22, INDEX, t -> t.changesOfMethod(block));
            refused(23, INDEX, t -> t.work(block, 0));
            refused(24, INDEX, t -> t.struck(block, 1));
            refused(46, INDEX, t -> t.checksum(block));
        }
        for (int place : new int[] {0, 5, -1, LEAST, MOST}) {
            refused(15, INDEX, t -> t.bellAt(0, 0, place));
            refused(24, INDEX, t -> t.struck(0, place));
        }
        for (int row : new int[] {25, -1, 3001, LEAST, MOST}) {
            refused(15, INDEX, t -> t.bellAt(0, row, 1));
        }
        for (int way : new int[] {0, 4, -1, LEAST, MOST}) {
            refused(17, ARGUMENT, t -> t.isTrue(0, way));
        }
        refused(18, NONE, t -> t.firstFalse(0));
        for (int method : new int[] {2, -1, 6, LEAST, MOST}) {
            refused(19, INDEX, t -> t.falseHeads(method, 'p', 0, 'p'));
            refused(19, INDEX, t -> t.falseHeads(0, 'p', method, 'p'));
            refused(19, INDEX, t -> t.falseHeads(method, 'x', 0, 'x'));
            refused(19, INDEX, t -> t.falseHeads(0, 'x', method, 'x'));
            refused(23, INDEX, t -> t.work(0, method));
        }
        for (char call : wrongCalls("")) {
            refused(19, ARGUMENT, t -> t.falseHeads(0, call, 1, 'p'));
            refused(19, ARGUMENT, t -> t.falseHeads(1, 'b', 0, call));
        }
    }

    private static void ofMusic() {
        for (int bell : new int[] {5, -1, LEAST, MOST}) {
            refused(25, ARGUMENT, t -> t.wish(bell));
        }
        refused(25, ARGUMENT, t -> t.wish(3));
        for (int number : new int[] {1, -1, 8, LEAST, MOST}) {
            refused(27, INDEX, t -> t.music(0, number, 'a'));
            refused(27, INDEX, t -> t.music(0, number, 'x'));
            int block = number == 1 ? 4 : number;
            refused(27, INDEX, t -> t.music(block, 0, 'a'));
            refused(27, INDEX, t -> t.music(block, 0, 'x'));
        }
        for (char stroke : ("cgipsABH" + (char) 0 + (char) 65535).toCharArray()) {
            refused(27, ARGUMENT, t -> t.music(0, 0, stroke));
        }
    }

    private static void ofCompositions() {
        for (int method : new int[] {2, -1, 6, LEAST, MOST}) {
            refused(28, INDEX, t -> t.seek(method, 1, 1, 1));
            refused(28, INDEX, t -> t.seek(method, 0, 0, 0));
            refused(30, INDEX, t -> t.count(method, 1, 1));
            refused(30, INDEX, t -> t.count(method, 0, 0));
        }
        for (int leads : new int[] {0, 21, -1, LEAST, MOST}) {
            refused(28, ARGUMENT, t -> t.seek(0, leads, 1, 1));
            int many = leads == 21 ? 13 : leads;
            refused(30, ARGUMENT, t -> t.count(0, many, 1));
        }
        for (int calls : new int[] {0, 4, -1, LEAST, MOST}) {
            refused(28, ARGUMENT, t -> t.seek(0, 3, calls, 1));
            refused(30, ARGUMENT, t -> t.count(0, 3, calls));
        }
        for (int times : new int[] {0, 7, -1, LEAST, MOST}) {
            refused(28, ARGUMENT, t -> t.seek(0, 3, 1, times));
        }
        // pp does not come round in one time, nor ppp in two
        refused(28, NONE, t -> t.seek(0, 2, 1, 1));
        refused(28, NONE, t -> t.seek(0, 3, 1, 2));
    }

    private static void ofRingers() {
        for (int strength : new int[] {0, 10, -1, LEAST, MOST}) {
            refused(31, ARGUMENT, t -> t.ringer(strength, 0, 2));
        }
        for (int slack : new int[] {-1, 31, LEAST, MOST}) {
            refused(31, ARGUMENT, t -> t.ringer(1, slack, 2));
        }
        for (int memory : new int[] {1, 100, 0, -1, LEAST, MOST}) {
            refused(31, ARGUMENT, t -> t.ringer(1, 0, memory));
        }
        for (int ringer : new int[] {5, -1, 12, LEAST, MOST}) {
            refused(32, INDEX, t -> t.learn(ringer, 0, true));
            refused(32, INDEX, t -> t.learn(ringer, 0, false));
            refused(34, INDEX, t -> t.setConductor(ringer));
        }
        for (int method : new int[] {2, -1, 6, LEAST, MOST}) {
            refused(32, INDEX, t -> t.learn(0, method, true));
            refused(32, INDEX, t -> t.learn(0, method, false));
        }
        for (int bell : new int[] {0, 5, -1, LEAST, MOST}) {
            refused(33, INDEX, t -> t.setWeight(bell, 1));
            refused(33, INDEX, t -> t.setWeight(bell, 0));
            refused(35, INDEX, t -> t.ringerFor(0, bell));
            // the block 1 has no band, as but one ringer has learnt its method
            refused(35, INDEX, t -> t.ringerFor(1, bell));
        }
        for (int weight : new int[] {0, 10, -1, LEAST, MOST}) {
            refused(33, ARGUMENT, t -> t.setWeight(2, weight));
        }
        for (int block : new int[] {4, -1, 10, LEAST, MOST}) {
            refused(35, INDEX, t -> t.ringerFor(block, 1));
            refused(36, INDEX, t -> t.bands(block));
        }
        refused(35, NONE, t -> t.ringerFor(1, 1));
    }

    private static void ofPerformances() {
        for (int block : new int[] {4, -1, 10, LEAST, MOST}) {
            refused(37, INDEX, t -> t.perform(block, 0));
            refused(37, INDEX, t -> t.perform(block, -1));
        }
        for (int seed : new int[] {-1, 100000, LEAST, MOST}) {
            refused(37, ARGUMENT, t -> t.perform(0, seed));
            // the block 3 does not come round, the block 1 neither, and it has no band
            refused(37, ARGUMENT, t -> t.perform(3, seed));
            refused(37, ARGUMENT, t -> t.perform(1, seed));
        }
        refused(37, SUPPORT, t -> t.perform(3, 0));
        refused(37, SUPPORT, t -> t.perform(1, 0));
        refused(37, NONE, t -> t.perform(2, 0));
        for (int performance : new int[] {2, -1, 12, LEAST, MOST}) {
            refused(38, INDEX, t -> t.rungAt(performance, 0, 1));
            refused(39, INDEX, t -> t.tell(performance, 'l'));
            refused(39, INDEX, t -> t.tell(performance, 'x'));
            refused(40, INDEX, t -> t.meanError(performance));
            refused(42, INDEX, t -> t.handIn(performance, 0));
            refused(42, INDEX, t -> t.handIn(performance, -1));
            refused(43, INDEX, t -> t.counts(performance));
        }
        for (int row : new int[] {25, -1, 3001, LEAST, MOST}) {
            refused(38, INDEX, t -> t.rungAt(0, row, 1));
        }
        for (int place : new int[] {0, 5, -1, LEAST, MOST}) {
            refused(38, INDEX, t -> t.rungAt(0, 0, place));
        }
        for (char what : ("kntegiqsLSMFHR" + (char) 0 + (char) 65535).replace("s", "").toCharArray()) {
            refused(39, ARGUMENT, t -> t.tell(0, what));
        }
    }

    private static void ofSociety() {
        for (int day : new int[] {-1, 100000, LEAST, MOST}) {
            refused(41, ARGUMENT, t -> t.rule(day, 0, 0, true));
            refused(42, ARGUMENT, t -> t.handIn(0, day));
            refused(42, ARGUMENT, t -> t.handIn(1, day));
        }
        for (int least : new int[] {-1, 10000, LEAST, MOST}) {
            refused(41, ARGUMENT, t -> t.rule(0, least, 0, true));
        }
        for (int slips : new int[] {-1, 100, LEAST, MOST}) {
            refused(41, ARGUMENT, t -> t.rule(0, 0, slips, true));
        }
        for (int day : new int[] {9, 0, -1, LEAST}) {
            refused(44, NONE, t -> t.record(day));
        }
    }

    private static void ofFullTower() {
        refused(3, STATE, t -> t.change(0));
        refused(3, ARGUMENT, t -> t.change(1));
        refused(4, STATE, t -> t.method());
        refused(11, STATE, t -> t.block());
        refused(12, STATE, t -> t.lead(9, 0, 'p'));
        refused(12, ARGUMENT, t -> t.lead(9, 0, 'x'));
        refused(12, INDEX, t -> t.lead(9, 6, 'p'));
        refused(13, STATE, t -> t.again(9, 8, 1));
        refused(13, ARGUMENT, t -> t.again(9, 9, 1));
        refused(13, ARGUMENT, t -> t.again(9, 8, 21));
        refused(13, INDEX, t -> t.again(9, 10, 1));
        refused(25, STATE, t -> t.wish(0));
        refused(25, STATE, t -> t.wish(1));
        refused(25, ARGUMENT, t -> t.wish(2));
        refused(25, ARGUMENT, t -> t.wish(5));
        refused(26, STATE, t -> t.pattern());
        refused(28, STATE, t -> t.seek(0, 2, 1, 1));
        refused(28, STATE, t -> t.seek(0, 1, 1, 2));
        // there is none such, but there is no room for it first
        refused(28, STATE, t -> t.seek(0, 1, 1, 1));
        refused(28, ARGUMENT, t -> t.seek(0, 2, 1, 0));
        refused(28, INDEX, t -> t.seek(6, 2, 1, 1));
        refused(31, STATE, t -> t.ringer(1, 0, 2));
        refused(31, ARGUMENT, t -> t.ringer(1, 0, 1));
        refused(37, STATE, t -> t.perform(0, 0));
        // a block with a method that only some have learnt: no band; one that does not come round; a wrong seed
        refused(37, NONE, t -> t.perform(9, 0));
        refused(37, ARGUMENT, t -> t.perform(9, -1));
        refused(37, INDEX, t -> t.perform(10, -1));
        refused(41, STATE, t -> t.rule(0, 0, 0, true));
        refused(41, ARGUMENT, t -> t.rule(0, 0, 100, true));
    }

    private static void ofTooLongBlock() {
        for (int row : new int[] {0, 3001, 3002, -1, LEAST, MOST}) {
            refused(15, SUPPORT, t -> t.bellAt(2, row, 1));
            refused(15, INDEX, t -> t.bellAt(2, row, 5));
        }
        refused(16, SUPPORT, t -> t.comesRound(2));
        for (int way = 1; way <= 3; way++) {
            int proof = way;
            refused(17, SUPPORT, t -> t.isTrue(2, proof));
        }
        refused(17, ARGUMENT, t -> t.isTrue(2, 4));
        refused(18, SUPPORT, t -> t.firstFalse(2));
        refused(20, SUPPORT, t -> t.level(2));
        refused(21, SUPPORT, t -> t.isLawful(2));
        refused(22, SUPPORT, t -> t.changesOfMethod(2));
        refused(23, SUPPORT, t -> t.work(2, 0));
        refused(23, INDEX, t -> t.work(2, 1));
        refused(24, SUPPORT, t -> t.struck(2, 4));
        refused(24, INDEX, t -> t.struck(2, 5));
        refused(27, SUPPORT, t -> t.music(2, 0, 'a'));
        refused(27, ARGUMENT, t -> t.music(2, 0, 'x'));
        refused(27, INDEX, t -> t.music(2, 1, 'a'));
        refused(35, NONE, t -> t.ringerFor(2, 1));
        refused(37, SUPPORT, t -> t.perform(2, 0));
        refused(37, ARGUMENT, t -> t.perform(2, 100000));
        refused(46, SUPPORT, t -> t.checksum(2));
    }

    private static void ofTooManyLeads() {
        // 14 leads of 36 changes are rung 5 times within 3000 changes, but not 6 times
        refused(28, SUPPORT, t -> t.seek(1, 14, 1, 6));
        refused(28, NONE, t -> t.seek(1, 14, 1, 5));
        refused(28, ARGUMENT, t -> t.seek(1, 14, 4, 6));
        refused(28, SUPPORT, t -> t.seek(0, 20, 3, 1));
        refused(30, SUPPORT, t -> t.count(0, 12, 3));
        refused(30, ARGUMENT, t -> t.count(0, 12, 4));
        refused(30, ARGUMENT, t -> t.count(0, 13, 3));
        Supplier<Changeringer> eight = state;
        begin(() -> {
            Changeringer tower = eight.get();
            tower.block();
            return tower;
        });
        refused(28, STATE, t -> t.seek(1, 14, 1, 6));
        refused(28, STATE, t -> t.seek(0, 20, 3, 2));
        refused(28, SUPPORT, t -> t.seek(0, 20, 3, 1));
    }
}
