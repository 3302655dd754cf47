import java.util.NoSuchElementException;

/** Promises 28 to 30: compositions. */
public final class ComposingTests {
    private static final Class<IllegalArgumentException> ARGUMENT = IllegalArgumentException.class;
    private static final Class<IllegalStateException> STATE = IllegalStateException.class;
    private static final Class<IndexOutOfBoundsException> INDEX = IndexOutOfBoundsException.class;
    private static final Class<UnsupportedOperationException> SUPPORT = UnsupportedOperationException.class;
    private static final Class<NoSuchElementException> NONE = NoSuchElementException.class;

    public static void main(String[] args) {
        finding();
        order();
        parts();
        wrongNumbers();
        limits();
        counting();
        Check.end("ComposingTests");
    }

    private static void finding() {
        Changeringer tower = Check.doubles();
        Check.due(29, 0, tower.tried());
        Check.due(28, 0, tower.seek(0, 4, 1, 1));
        Check.due(29, 4, tower.tried());
        Check.due(28, 40L, tower.length(0));
        // pppp comes round too early, so the fifth lead that is tried is the bob of pppb
        Check.due(28, 2, tower.seek(0, 4, 2, 3));
        Check.due(29, 5, tower.tried());
        Check.due(28, 40L, tower.length(1));
        Check.due(28, 120L, tower.length(2));
        Check.due(28, false, tower.comesRound(1));
        Check.due(28, true, tower.comesRound(2));
        Check.due(28, true, tower.isTrue(2, 3));
        Check.due(28, "14235", Check.row(tower, 1, 40, 5));
        // a seeking that finds nothing leaves all as it was
        Check.fails(28, NONE, () -> tower.seek(0, 3, 1, 1));
        Check.due(29, 5, tower.tried());
        Check.due(28, 3, tower.block());
        // what was found is rung by the calls of later on, as any block is
        tower.setCall(0, 'b', 9, 19);
        Check.due(28, "12345", Check.row(tower, 1, 40, 5));
        tower.setBells(5);
        Check.due(29, 0, tower.tried());
    }

    private static void order() {
        // the single 1 to 4 of one change: p brings 2143, b 1243, s 2134
        Changeringer tower = Check.tower(4);
        Check.method(tower, 0);
        tower.setCall(0, 'b', 0, 3);
        tower.setCall(0, 's', 0, 12);
        // p, then p again: comes round
        Check.due(28, 0, tower.seek(0, 2, 3, 1));
        Check.due(29, 2, tower.tried());
        Check.due(28, "2143", Check.row(tower, 0, 1, 4));
        // ppp is false at the third, ppb and pps too; pb, then p false, b false, s: 2143, 2134, 1234 comes round
        Check.due(28, 1, tower.seek(0, 3, 3, 1));
        Check.due(28, "2143", Check.row(tower, 1, 1, 4));
        Check.due(28, "2134", Check.row(tower, 1, 2, 4));
        Check.due(28, "1234", Check.row(tower, 1, 3, 4));
        // p, pp, ppp, ppb, pps, pb, pbp, pbb, pbs
        Check.due(29, 9, tower.tried());
        // with two calls alone there is none of three
        Check.fails(28, NONE, () -> tower.seek(0, 3, 2, 1));
        Check.due(28, 2, tower.seek(0, 4, 2, 1));
        Check.due(28, "2134", Check.row(tower, 2, 2, 4));
        Check.due(28, "1243", Check.row(tower, 2, 3, 4));
    }

    private static void parts() {
        Changeringer tower = Check.tower(4);
        Check.method(tower, 0, 9);
        Check.due(28, 1, tower.seek(0, 1, 1, 4));
        Check.due(29, 1, tower.tried());
        Check.due(28, 2L, tower.length(0));
        Check.due(28, 8L, tower.length(1));
        Check.due(28, 3, tower.seek(0, 2, 1, 2));
        Check.due(28, 4L, tower.length(2));
        Check.fails(28, NONE, () -> tower.seek(0, 1, 1, 2));
        Check.fails(28, NONE, () -> tower.seek(0, 2, 1, 4));
        // a lead with a row twice is not even the last one
        Check.method(tower, 0, 0, 9);
        Check.fails(28, NONE, () -> tower.seek(1, 1, 1, 2));
        // 123456, 124365, 213456 and then 214365, 213456: true in itself, but not with both times
        Changeringer six = Check.tower(6);
        Check.method(six, 3, 0, 3);
        Check.fails(28, NONE, () -> six.seek(0, 1, 1, 2));
        int part = Check.block(six, 0, "p");
        int both = six.block();
        six.again(both, part, 2);
        Check.due(28, true, six.isTrue(part, 1));
        Check.due(28, true, six.comesRound(both));
        Check.due(28, false, six.isTrue(both, 1));
    }

    private static void wrongNumbers() {
        Changeringer tower = Check.minimus();
        Check.fails(28, INDEX, () -> tower.seek(1, 0, 0, 0));
        Check.fails(28, INDEX, () -> tower.seek(-1, 1, 1, 1));
        Check.fails(28, ARGUMENT, () -> tower.seek(0, 0, 1, 1));
        Check.fails(28, ARGUMENT, () -> tower.seek(0, 21, 1, 1));
        Check.fails(28, ARGUMENT, () -> tower.seek(0, 1, 0, 1));
        Check.fails(28, ARGUMENT, () -> tower.seek(0, 1, 4, 1));
        Check.fails(28, ARGUMENT, () -> tower.seek(0, 1, 1, 0));
        Check.fails(28, ARGUMENT, () -> tower.seek(0, 1, 1, 7));
        for (int block = 0; block < 9; block++) {
            tower.block();
        }
        Check.fails(28, STATE, () -> tower.seek(0, 1, 1, 3));
        Check.fails(28, STATE, () -> tower.seek(0, 20, 1, 6));
        Check.fails(28, ARGUMENT, () -> tower.seek(0, 1, 1, 7));
        Check.due(28, 9, tower.seek(0, 3, 1, 1));
        Check.fails(28, STATE, () -> tower.seek(0, 3, 1, 1));
        Check.due(30, 1L, tower.count(0, 3, 1));
    }

    private static void limits() {
        Changeringer tower = Check.tower(8);
        int[] changes = new int[40];
        for (int at = 0; at < 40; at++) {
            changes[at] = at % 2 == 0 ? 0 : 129;
        }
        Check.method(tower, changes);
        // 20 * 40 * 4 changes are too many, 15 * 40 * 5 just not
        Check.fails(28, SUPPORT, () -> tower.seek(0, 20, 1, 4));
        Check.fails(28, SUPPORT, () -> tower.seek(0, 19, 1, 4));
        Check.fails(28, NONE, () -> tower.seek(0, 15, 1, 5));
        Check.fails(28, NONE, () -> tower.seek(0, 20, 1, 1));
        // a long way, but not too long, and too long ones
        Changeringer major = Check.major();
        Check.due(28, 0, major.seek(0, 18, 2, 1));
        Check.due(29, 28143, major.tried());
        Check.fails(28, SUPPORT, () -> major.seek(0, 16, 2, 1));
        Check.fails(28, SUPPORT, () -> major.seek(0, 20, 3, 1));
        Check.due(29, 28143, major.tried());
        Check.due(28, 1, major.block());
        Check.fails(30, SUPPORT, () -> major.count(0, 12, 3));
        Check.due(30, 16L, major.count(0, 5, 3));
        // these count just 30000 leads
        Changeringer seven = Check.tower(7);
        Check.method(seven, 19, 64, 121, 64);
        seven.setCall(0, 'b', 3, 73);
        seven.setCall(0, 's', 3, 76);
        Check.due(30, 275L, seven.count(0, 12, 3));
        Changeringer six = Check.tower(6);
        Check.method(six, 48, 0, 36, 39);
        six.setCall(0, 'b', 3, 9);
        six.setCall(0, 's', 3, 0);
        Check.due(30, 20L, six.count(0, 10, 3));
        // and here the first one would be found as the lead 30001
        Changeringer eight = Check.tower(8);
        Check.method(eight, 0, 147, 0, 249, 36);
        eight.setCall(0, 'b', 4, 0);
        eight.setCall(0, 's', 4, 129);
        Check.fails(28, SUPPORT, () -> eight.seek(0, 16, 3, 1));
    }

    private static void counting() {
        Changeringer tower = Check.tower(4);
        Check.method(tower, 0);
        tower.setCall(0, 'b', 0, 3);
        tower.setCall(0, 's', 0, 12);
        Check.due(30, 0L, tower.count(0, 1, 3));
        Check.due(30, 1L, tower.count(0, 2, 1));
        // pp, bb and ss
        Check.due(30, 3L, tower.count(0, 2, 3));
        // each order of p, b and s
        Check.due(30, 6L, tower.count(0, 3, 3));
        Check.due(30, 0L, tower.count(0, 3, 2));
        // pbpb and bpbp; with singles psps, spsp, bsbs and sbsb too
        Check.due(30, 2L, tower.count(0, 4, 2));
        Check.due(30, 6L, tower.count(0, 4, 3));
        Check.due(30, 0L, tower.count(0, 12, 3));
        Check.fails(30, INDEX, () -> tower.count(1, 1, 1));
        Check.fails(30, INDEX, () -> tower.count(-1, 0, 0));
        Check.fails(30, ARGUMENT, () -> tower.count(0, 0, 1));
        Check.fails(30, ARGUMENT, () -> tower.count(0, 13, 1));
        Check.fails(30, ARGUMENT, () -> tower.count(0, 1, 0));
        Check.fails(30, ARGUMENT, () -> tower.count(0, 1, 4));
    }
}
