import java.util.NoSuchElementException;

/** Promises 11 to 27 and 46: blocks, truth, splicing and music. */
public final class BlockTests {
    private static final Class<IllegalArgumentException> ARGUMENT = IllegalArgumentException.class;
    private static final Class<IllegalStateException> STATE = IllegalStateException.class;
    private static final Class<IndexOutOfBoundsException> INDEX = IndexOutOfBoundsException.class;
    private static final Class<UnsupportedOperationException> SUPPORT = UnsupportedOperationException.class;
    private static final Class<NoSuchElementException> NONE = NoSuchElementException.class;

    public static void main(String[] args) {
        blocks();
        leads();
        again();
        lengths();
        rowsOfBlocks();
        truth();
        firstFalse();
        falseHeads();
        levels();
        splicing();
        work();
        struck();
        wishes();
        music();
        checksums();
        tooLong();
        deepBlocks();
        extents();
        blocksWithoutChanges();
        Check.end("BlockTests");
    }

    private static void blocks() {
        Changeringer tower = new Changeringer();
        for (int block = 0; block < 10; block++) {
            Check.due(11, block, tower.block());
        }
        Check.fails(11, STATE, () -> tower.block());
        Check.due(11, 0L, tower.length(9));
    }

    private static void leads() {
        Changeringer tower = Check.spliced();
        tower.block();
        Check.fails(12, INDEX, () -> tower.lead(1, 0, 'p'));
        Check.fails(12, INDEX, () -> tower.lead(-1, 0, 'p'));
        Check.fails(12, INDEX, () -> tower.lead(0, 2, 'p'));
        Check.fails(12, INDEX, () -> tower.lead(0, -1, 'x'));
        Check.fails(12, ARGUMENT, () -> tower.lead(0, 0, 'x'));
        Check.fails(12, ARGUMENT, () -> tower.lead(0, 0, (char) 0));
        for (int items = 1; items <= 20; items++) {
            Check.due(12, items, tower.lead(0, items % 2, "pbs".charAt(items % 3)));
        }
        Check.fails(12, STATE, () -> tower.lead(0, 0, 'p'));
        Check.fails(12, ARGUMENT, () -> tower.lead(0, 0, 'x'));
        Check.due(12, 10L * 8 + 10, tower.length(0));
    }

    private static void again() {
        Changeringer tower = Check.minimus();
        Check.block(tower, 0, "p");
        tower.block();
        Check.fails(13, INDEX, () -> tower.again(2, 0, 1));
        Check.fails(13, INDEX, () -> tower.again(1, 2, 0));
        Check.fails(13, INDEX, () -> tower.again(1, -1, 1));
        Check.fails(13, ARGUMENT, () -> tower.again(1, 0, 0));
        Check.fails(13, ARGUMENT, () -> tower.again(1, 0, 21));
        Check.fails(13, ARGUMENT, () -> tower.again(1, 1, 1));
        Check.fails(13, ARGUMENT, () -> tower.again(0, 1, 1));
        for (int items = 1; items <= 20; items++) {
            Check.due(13, items, tower.again(1, 0, items));
        }
        Check.fails(13, STATE, () -> tower.again(1, 0, 1));
        Check.fails(13, ARGUMENT, () -> tower.again(1, 0, 21));
        Check.due(13, 210L * 8, tower.length(1));
        // a lower block is the one that it is when the upper one is rung
        Changeringer later = Check.minimus();
        later.block();
        later.block();
        later.again(1, 0, 3);
        Check.due(13, 0L, later.length(1));
        later.lead(0, 0, 'p');
        Check.due(13, 24L, later.length(1));
    }

    private static void lengths() {
        Changeringer tower = new Changeringer();
        Check.method(tower, 0);
        Check.block(tower, 0, "pbs");
        Check.due(14, 3L, tower.length(0));
        long length = 3;
        for (int block = 1; block < 10; block++) {
            tower.block();
            tower.again(block, block - 1, 20);
            length = Math.min(20 * length, 1000000000L);
            Check.due(14, length, tower.length(block));
        }
        // 1000000000 changes to the change, one less, and one more
        Changeringer exact = new Changeringer();
        Check.method(exact, 0);
        Check.block(exact, 0, "pppppppppp");
        int[] times = {10, 10, 10, 10, 10, 10, 10, 10};
        for (int block = 1; block <= 8; block++) {
            exact.block();
            exact.again(block, block - 1, times[block - 1]);
        }
        Check.due(14, 1000000000L, exact.length(8));
        Check.due(14, 100000000L, exact.length(7));
        exact.lead(8, 0, 'p');
        Check.due(14, 1000000000L, exact.length(8));
        exact.block();
        exact.again(9, 7, 9);
        exact.again(9, 6, 9);
        exact.again(9, 5, 9);
        Check.due(14, 999000000L, exact.length(9));
        Check.fails(14, INDEX, () -> exact.length(10));
        Check.fails(14, INDEX, () -> exact.length(-1));
    }

    private static void rowsOfBlocks() {
        Changeringer tower = Check.minor();
        int block = Check.block(tower, 0, "pbs");
        String[] rows = {"123456", "214365", "241635", "426153", "462513", "645231", "654321", "563412", "536142",
            "351624", "315264", "132546", "135264"};
        for (int row = 0; row < rows.length; row++) {
            Check.due(15, rows[row], Check.row(tower, block, row, 6));
        }
        Check.due(15, 36L, tower.length(block));
        Check.due(15, "135642", Check.row(tower, block, 24, 6));
        Check.due(15, "153462", Check.row(tower, block, 35, 6));
        Check.fails(15, INDEX, () -> tower.bellAt(block, 37, 1));
        Check.fails(15, INDEX, () -> tower.bellAt(block, -1, 1));
        Check.fails(15, INDEX, () -> tower.bellAt(block, 0, 0));
        Check.fails(15, INDEX, () -> tower.bellAt(block, 0, 7));
        Check.fails(15, INDEX, () -> tower.bellAt(1, 0, 1));
        Check.due(16, false, tower.comesRound(block));
        Check.fails(16, INDEX, () -> tower.comesRound(1));
        Check.fails(16, INDEX, () -> tower.comesRound(-1));
        int course = Check.block(tower, 0, "ppppp");
        Check.due(16, true, tower.comesRound(course));
        String[] heads = {"123456", "135264", "156342", "164523", "142635", "123456"};
        for (int lead = 0; lead < heads.length; lead++) {
            Check.due(15, heads[lead], Check.row(tower, course, 12 * lead, 6));
        }
        // a single twice over comes round only in its parts
        int singles = Check.block(tower, 0, "pppps");
        int both = tower.block();
        tower.again(both, singles, 1);
        Check.due(16, false, tower.comesRound(both));
        tower.again(both, singles, 1);
        Check.due(16, true, tower.comesRound(both));
    }

    private static void truth() {
        Changeringer tower = Check.doubles();
        int part = Check.block(tower, 0, "pppb");
        int extent = tower.block();
        tower.again(extent, part, 3);
        int more = tower.block();
        tower.again(more, extent, 1);
        tower.lead(more, 0, 'p');
        int wrong = Check.block(tower, 0, "bb");
        for (int way = 1; way <= 3; way++) {
            Check.due(17, true, tower.isTrue(part, way));
            Check.due(17, true, tower.isTrue(extent, way));
            Check.due(17, false, tower.isTrue(more, way));
            Check.due(17, true, tower.isTrue(wrong, way));
        }
        tower.lead(wrong, 0, 'b');
        for (int way = 1; way <= 3; way++) {
            Check.due(17, false, tower.isTrue(wrong, way));
        }
        for (int way : new int[] {0, 4, -1, Integer.MAX_VALUE}) {
            Check.fails(17, ARGUMENT, () -> tower.isTrue(0, way));
            Check.fails(17, INDEX, () -> tower.isTrue(9, way));
        }
        // false within one lead alone, and between leads of two methods alone
        Changeringer four = Check.tower(4);
        Check.method(four, 0, 0, 9);
        Check.method(four, 0, 9);
        Check.method(four, 3, 0);
        int within = Check.block(four, 0, "p");
        int between = Check.block(four, 1, "pp");
        four.lead(between, 2, 'p');
        int mixed = Check.block(four, 1, "p");
        four.lead(mixed, 0, 'p');
        for (int way = 1; way <= 3; way++) {
            Check.due(17, false, four.isTrue(within, way));
            Check.due(17, true, four.isTrue(between, way));
            Check.due(17, false, four.isTrue(mixed, way));
        }
        // the head 3421 has 4312 behind it, which is a row of the lead of the other method
        four.lead(between, 1, 'p');
        for (int way = 1; way <= 3; way++) {
            Check.due(17, false, four.isTrue(between, way));
        }
    }

    private static void firstFalse() {
        Changeringer tower = Check.minimus();
        int course = Check.block(tower, 0, "ppp");
        Check.fails(18, NONE, () -> tower.firstFalse(course));
        tower.lead(course, 0, 'p');
        Check.due(18, 24, tower.firstFalse(course));
        Check.fails(18, INDEX, () -> tower.firstFalse(1));
        Check.fails(18, INDEX, () -> tower.firstFalse(-1));
        Changeringer four = Check.tower(4);
        Check.method(four, 0, 0, 9);
        Check.block(four, 0, "p");
        Check.due(18, 2, four.firstFalse(0));
        // the last row is left out, though it is like the first one
        Changeringer two = Check.tower(4);
        Check.method(two, 0);
        Check.block(two, 0, "pp");
        Check.fails(18, NONE, () -> two.firstFalse(0));
        two.lead(0, 0, 'p');
        Check.due(18, 2, two.firstFalse(0));
    }

    private static void falseHeads() {
        Changeringer tower = Check.tower(4);
        Check.method(tower, 0);
        Check.method(tower, 0, 9);
        Check.method(tower, 0, 9, 0, 9, 0, 9, 0, 3);
        tower.setCall(0, 'b', 0, 9);
        Check.due(19, 1, tower.falseHeads(0, 'p', 0, 'p'));
        Check.due(19, 1, tower.falseHeads(0, 'p', 0, 'b'));
        Check.due(19, 2, tower.falseHeads(0, 'p', 1, 'p'));
        Check.due(19, 2, tower.falseHeads(1, 'p', 0, 'p'));
        Check.due(19, 2, tower.falseHeads(1, 'p', 1, 'p'));
        Check.due(19, 8, tower.falseHeads(2, 'p', 2, 'p'));
        Check.due(19, 8, tower.falseHeads(2, 'p', 1, 'p'));
        // a row within the lead is another one by this bob
        tower.setCall(1, 'b', 0, 9);
        Check.due(19, 4, tower.falseHeads(1, 'p', 1, 'b'));
        Check.fails(19, INDEX, () -> tower.falseHeads(3, 'p', 0, 'p'));
        Check.fails(19, INDEX, () -> tower.falseHeads(0, 'x', 3, 'p'));
        Check.fails(19, INDEX, () -> tower.falseHeads(0, 'p', -1, 'x'));
        Check.fails(19, ARGUMENT, () -> tower.falseHeads(0, 'x', 0, 'p'));
        Check.fails(19, ARGUMENT, () -> tower.falseHeads(0, 'p', 0, 'x'));
    }

    private static void levels() {
        Changeringer tower = Check.minimus();
        int course = Check.block(tower, 0, "ppp");
        int twice = tower.block();
        tower.again(twice, course, 2);
        int odd = tower.block();
        tower.again(odd, course, 2);
        tower.lead(odd, 0, 'p');
        int short1 = Check.block(tower, 0, "bb");
        Check.due(20, 1, tower.level(course));
        Check.due(20, 2, tower.level(twice));
        Check.due(20, 3, tower.level(odd));
        Check.due(21, true, tower.isLawful(course));
        Check.due(21, true, tower.isLawful(twice));
        Check.due(21, false, tower.isLawful(odd));
        // comes round, but some rows come twice and others not at all
        Check.due(16, true, tower.comesRound(short1));
        Check.due(20, 2, tower.level(short1));
        Check.due(21, false, tower.isLawful(short1));
        int once = Check.block(tower, 0, "b");
        Check.due(21, true, tower.isLawful(once));
        int open = Check.block(tower, 0, "p");
        Check.due(21, false, tower.isLawful(open));
        // an extent and a true part of it again: once and twice
        int both = tower.block();
        tower.again(both, course, 1);
        tower.again(both, once, 1);
        Check.due(20, 2, tower.level(both));
        Check.due(21, true, tower.isLawful(both));
        Check.due(17, false, tower.isTrue(both, 3));
        tower.again(both, once, 1);
        Check.due(21, false, tower.isLawful(both));
        Check.fails(20, INDEX, () -> tower.level(9));
        Check.fails(21, INDEX, () -> tower.isLawful(9));
        Check.fails(20, INDEX, () -> tower.level(-1));
        Check.fails(21, INDEX, () -> tower.isLawful(-1));
    }

    private static void splicing() {
        Changeringer tower = Check.spliced();
        int block = Check.block(tower, 0, "ppb");
        Check.due(22, 0, tower.changesOfMethod(block));
        tower.lead(block, 1, 'p');
        Check.due(22, 1, tower.changesOfMethod(block));
        tower.lead(block, 0, 's');
        Check.due(22, 2, tower.changesOfMethod(block));
        // between the times of a block too: 2 in each, and none at the seams
        int times = tower.block();
        tower.again(times, block, 3);
        Check.due(22, 6, tower.changesOfMethod(times));
        tower.lead(block, 1, 'p');
        Check.due(22, 11, tower.changesOfMethod(times));
        Check.fails(22, INDEX, () -> tower.changesOfMethod(2));
        Check.fails(22, INDEX, () -> tower.changesOfMethod(-1));
    }

    private static void work() {
        Changeringer tower = Check.minor();
        Check.method(tower, 0, 33);
        int block = Check.block(tower, 0, "ppppp");
        Check.due(23, 25, tower.work(block, 0));
        Check.due(23, 0, tower.work(block, 1));
        int part = Check.block(tower, 0, "pb");
        Check.due(23, 10, tower.work(part, 0));
        // the same heads again are no more work
        int twice = tower.block();
        tower.again(twice, block, 2);
        Check.due(23, 25, tower.work(twice, 0));
        // a principle is the work of the bell 1 too
        int principle = Check.block(tower, 1, "p");
        Check.due(23, 6, tower.work(principle, 1));
        tower.lead(principle, 1, 'p');
        Check.due(23, 12, tower.work(principle, 1));
        tower.lead(principle, 0, 'p');
        Check.due(23, 5, tower.work(principle, 0));
        Check.fails(23, INDEX, () -> tower.work(4, 0));
        Check.fails(23, INDEX, () -> tower.work(0, 2));
        Check.fails(23, INDEX, () -> tower.work(0, -1));
    }

    private static void struck() {
        Changeringer tower = Check.minor();
        int block = Check.block(tower, 0, "b");
        int[] bob = {0, 1, 1, 0, 1, 0};
        for (int bell = 1; bell <= 6; bell++) {
            Check.due(24, bob[bell - 1], tower.struck(block, bell));
        }
        int singles = Check.block(tower, 0, "ps");
        // from 135264 the single strikes the bells in 2 and 5, as they come to 3 and 4 instead of 4 and 3
        int[] single = {0, 0, 1, 0, 0, 1};
        for (int bell = 1; bell <= 6; bell++) {
            Check.due(24, single[bell - 1], tower.struck(singles, bell));
        }
        int often = tower.block();
        tower.again(often, block, 7);
        Check.due(24, 7, tower.struck(often, 2));
        int plain = Check.block(tower, 0, "ppp");
        Check.due(24, 0, tower.struck(plain, 2));
        Check.fails(24, INDEX, () -> tower.struck(0, 0));
        Check.fails(24, INDEX, () -> tower.struck(0, 7));
        Check.fails(24, INDEX, () -> tower.struck(9, 1));
        // a call that is as the plain lead strikes nobody
        tower.setCall(0, 'b', 11, 3);
        Check.due(24, 0, tower.struck(block, 2));
    }

    private static void wishes() {
        Changeringer tower = Check.tower(4);
        Check.fails(25, ARGUMENT, () -> tower.wish(5));
        Check.fails(25, ARGUMENT, () -> tower.wish(-1));
        Check.due(25, 1, tower.wish(4));
        Check.due(25, 2, tower.wish(0));
        Check.due(25, 3, tower.wish(0));
        Check.fails(25, ARGUMENT, () -> tower.wish(4));
        Check.due(25, 4, tower.wish(1));
        Check.fails(25, ARGUMENT, () -> tower.wish(4));
        Check.fails(25, ARGUMENT, () -> tower.wish(5));
        Check.fails(25, STATE, () -> tower.wish(2));
        Check.fails(25, STATE, () -> tower.wish(0));
        Check.due(26, 0, tower.pattern());
        Check.due(25, 1, tower.wish(4));
        for (int pattern = 1; pattern < 8; pattern++) {
            Check.due(26, pattern, tower.pattern());
        }
        Check.due(25, 1, tower.wish(2));
        Check.fails(26, STATE, () -> tower.pattern());
        Check.due(25, 2, tower.wish(3));
    }

    private static void music() {
        Changeringer tower = Check.minor();
        int course = Check.block(tower, 0, "ppppp");
        tower.pattern();
        tower.wish(1);
        tower.pattern();
        for (int bell : new int[] {1, 3, 5, 2}) {
            tower.wish(bell);
        }
        tower.pattern();
        for (int place = 0; place < 5; place++) {
            tower.wish(0);
        }
        tower.wish(6);
        tower.pattern();
        for (int bell = 1; bell <= 6; bell++) {
            tower.wish(bell);
        }
        Check.due(27, 4, tower.pattern());
        Check.due(27, 60, tower.music(course, 0, 'a'));
        Check.due(27, 30, tower.music(course, 0, 'h'));
        Check.due(27, 30, tower.music(course, 0, 'b'));
        Check.due(27, 10, tower.music(course, 1, 'a'));
        Check.due(27, 5, tower.music(course, 1, 'h'));
        Check.due(27, 1, tower.music(course, 2, 'b'));
        Check.due(27, 0, tower.music(course, 2, 'h'));
        // the row 0 does not count, the last one does
        Check.due(27, 1, tower.music(course, 4, 'a'));
        Check.due(27, 1, tower.music(course, 4, 'b'));
        Check.due(27, 10, tower.music(course, 3, 'a'));
        int lead = Check.block(tower, 0, "p");
        Check.due(27, 1, tower.music(lead, 2, 'a'));
        Check.due(27, 0, tower.music(lead, 4, 'a'));
        Check.fails(27, INDEX, () -> tower.music(2, 0, 'a'));
        Check.fails(27, INDEX, () -> tower.music(0, 5, 'x'));
        Check.fails(27, INDEX, () -> tower.music(0, -1, 'a'));
        Check.fails(27, ARGUMENT, () -> tower.music(0, 0, 'x'));
        Check.fails(27, ARGUMENT, () -> tower.music(0, 0, 'H'));
    }

    private static void checksums() {
        Changeringer tower = Check.tower(4);
        Check.method(tower, 0);
        Check.block(tower, 0, "");
        Check.due(46, 0L, tower.checksum(0));
        tower.lead(0, 0, 'p');
        // 2143 has six rows that begin with 1 ahead of it, and 2134
        Check.due(46, 7L, tower.checksum(0));
        tower.lead(0, 0, 'p');
        Check.due(46, 217L, tower.checksum(0));
        tower.lead(0, 0, 'p');
        Check.due(46, 217L * 31 + 7, tower.checksum(0));
        Changeringer eight = Check.tower(8);
        Check.method(eight, 0);
        Check.block(eight, 0, "p");
        // 21436587: 1 * 5040 + 1 * 120 + 1 * 6 + 1 * 1
        Check.due(46, 5040L + 120 + 6 + 1, eight.checksum(0));
        Check.fails(46, INDEX, () -> eight.checksum(1));
        Check.fails(46, INDEX, () -> eight.checksum(-1));
    }

    /** 3000 changes can be rung, 3001 not, and what cannot be rung is told so by each method. */
    private static void tooLong() {
        Changeringer tower = Check.tower(4);
        Check.method(tower, 0);
        Check.block(tower, 0, "pppppppppp");
        tower.block();
        tower.again(1, 0, 20);
        int block = tower.block();
        tower.again(block, 1, 15);
        tower.pattern();
        Check.due(14, 3000L, tower.length(block));
        Check.due(16, true, tower.comesRound(block));
        Check.due(15, "1234", Check.row(tower, block, 3000, 4));
        Check.due(20, 1500, tower.level(block));
        Check.due(18, 2, tower.firstFalse(block));
        tower.lead(block, 0, 'p');
        Check.due(14, 3001L, tower.length(block));
        Check.fails(15, SUPPORT, () -> tower.bellAt(block, 0, 1));
        Check.fails(15, SUPPORT, () -> tower.bellAt(block, 4000, 1));
        Check.fails(15, SUPPORT, () -> tower.bellAt(block, -1, 1));
        Check.fails(15, INDEX, () -> tower.bellAt(block, 0, 5));
        Check.fails(16, SUPPORT, () -> tower.comesRound(block));
        Check.fails(17, SUPPORT, () -> tower.isTrue(block, 1));
        Check.fails(17, SUPPORT, () -> tower.isTrue(block, 2));
        Check.fails(17, SUPPORT, () -> tower.isTrue(block, 3));
        Check.fails(17, ARGUMENT, () -> tower.isTrue(block, 0));
        Check.fails(18, SUPPORT, () -> tower.firstFalse(block));
        Check.fails(20, SUPPORT, () -> tower.level(block));
        Check.fails(21, SUPPORT, () -> tower.isLawful(block));
        Check.fails(22, SUPPORT, () -> tower.changesOfMethod(block));
        Check.fails(23, SUPPORT, () -> tower.work(block, 0));
        Check.fails(23, INDEX, () -> tower.work(block, 1));
        Check.fails(24, SUPPORT, () -> tower.struck(block, 1));
        Check.fails(24, INDEX, () -> tower.struck(block, 5));
        Check.fails(27, SUPPORT, () -> tower.music(block, 0, 'a'));
        Check.fails(27, ARGUMENT, () -> tower.music(block, 0, 'x'));
        Check.fails(46, SUPPORT, () -> tower.checksum(block));
        Check.due(47, true, tower.isSound());
    }

    /** Ten blocks, each but the first with the one below it in it. */
    private static void deepBlocks() {
        Changeringer tower = Check.tower(4);
        Check.method(tower, 0);
        Check.method(tower, 9);
        Check.block(tower, 0, "p");
        for (int block = 1; block < 10; block++) {
            tower.block();
            tower.again(block, block - 1, block == 5 ? 2 : 1);
            tower.lead(block, 1, 'p');
        }
        Check.due(14, 15L, tower.length(9));
        Check.due(22, 2, tower.changesOfMethod(5) - tower.changesOfMethod(4));
        Check.due(15, "2143", Check.row(tower, 9, 1, 4));
        Check.due(15, "2413", Check.row(tower, 9, 2, 4));
        // the second time begins in the row 5 with the change 0
        Check.due(15, "2143", Check.row(tower, 9, 5, 4));
        Check.due(15, "1234", Check.row(tower, 9, 6, 4));
    }

    /** All 720 rows of six bells, once and twice. */
    private static void extents() {
        Changeringer tower = Check.minor();
        int extent = tower.seek(0, 20, 3, 3);
        Check.due(14, 720L, tower.length(extent));
        Check.due(20, 1, tower.level(extent));
        Check.due(21, true, tower.isLawful(extent));
        int more = tower.block();
        tower.again(more, extent, 2);
        Check.due(20, 2, tower.level(more));
        Check.due(21, true, tower.isLawful(more));
        int course = Check.block(tower, 0, "ppppp");
        int most = tower.block();
        tower.again(most, extent, 1);
        tower.again(most, course, 1);
        Check.due(21, true, tower.isLawful(most));
        tower.again(most, course, 1);
        Check.due(21, false, tower.isLawful(most));
        Changeringer doubles = Check.doubles();
        int all = doubles.seek(0, 4, 2, 3);
        int twice = doubles.block();
        doubles.again(twice, all, 2);
        Check.due(21, true, doubles.isLawful(twice));
        doubles.again(twice, all, 18);
        Check.due(20, 20, doubles.level(twice));
        Check.due(21, true, doubles.isLawful(twice));
    }

    /** Blocks without changes in each other, many times over, must not take long. */
    private static void blocksWithoutChanges() {
        Changeringer tower = Check.tower(4);
        Check.method(tower, 0);
        tower.block();
        for (int block = 1; block < 10; block++) {
            tower.block();
            for (int item = 0; item < 19; item++) {
                tower.again(block, block - 1, 20);
            }
        }
        Check.due(14, 0L, tower.length(9));
        Check.due(15, "1234", Check.row(tower, 9, 0, 4));
        Check.fails(15, INDEX, () -> tower.bellAt(9, 1, 1));
        Check.due(16, true, tower.comesRound(9));
        for (int way = 1; way <= 3; way++) {
            Check.due(17, true, tower.isTrue(9, way));
        }
        Check.fails(18, NONE, () -> tower.firstFalse(9));
        Check.due(20, 0, tower.level(9));
        Check.due(21, true, tower.isLawful(9));
        Check.due(22, 0, tower.changesOfMethod(9));
        Check.due(23, 0, tower.work(9, 0));
        Check.due(24, 0, tower.struck(9, 1));
        tower.pattern();
        Check.due(27, 0, tower.music(9, 0, 'a'));
        Check.due(46, 0L, tower.checksum(9));
        tower.lead(9, 0, 'p');
        Check.due(15, "2143", Check.row(tower, 9, 1, 4));
        Check.due(47, true, tower.isSound());
    }
}
