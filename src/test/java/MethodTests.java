/** Promises 1 to 10: the tower, changes, methods and calls. */
public final class MethodTests {
    private static final Class<IllegalArgumentException> ARGUMENT = IllegalArgumentException.class;
    private static final Class<IllegalStateException> STATE = IllegalStateException.class;
    private static final Class<IndexOutOfBoundsException> INDEX = IndexOutOfBoundsException.class;
    private static final Class<UnsupportedOperationException> SUPPORT = UnsupportedOperationException.class;

    public static void main(String[] args) {
        newObject();
        setBells();
        changes();
        methods();
        calls();
        kinds();
        even();
        leadsAndRings();
        brings();
        Check.end("MethodTests");
    }

    private static void newObject() {
        Changeringer tower = new Changeringer();
        Check.fails(1, INDEX, () -> tower.kindOf(0));
        Check.fails(1, INDEX, () -> tower.length(0));
        Check.fails(1, INDEX, () -> tower.setConductor(0));
        Check.fails(1, INDEX, () -> tower.handIn(0, 0));
        Check.fails(1, java.util.NoSuchElementException.class, () -> tower.record(99999));
        Check.fails(1, ArithmeticException.class, () -> tower.mendedShare());
        Check.due(1, 0, tower.tried());
        Check.due(1, true, tower.isSound());
        Check.fails(1, SUPPORT, () -> tower.method());
        Check.due(1, 1, tower.setWeight(6, 2));
        Check.fails(1, INDEX, () -> tower.setWeight(7, 2));
        Check.due(1, 6, tower.setBells(8));
    }

    private static void setBells() {
        Changeringer tower = new Changeringer();
        Check.fails(2, ARGUMENT, () -> tower.setBells(3));
        Check.fails(2, ARGUMENT, () -> tower.setBells(9));
        Check.fails(2, ARGUMENT, () -> tower.setBells(Integer.MIN_VALUE));
        Check.due(2, 6, tower.setBells(4));
        fillAll(tower);
        Check.fails(2, ARGUMENT, () -> tower.setBells(0));
        Check.due(2, 'l', tower.kindOf(0));
        Check.due(2, 1, tower.tried());
        Check.due(2, 4, tower.setBells(4));
        Check.fails(2, INDEX, () -> tower.kindOf(0));
        Check.fails(2, INDEX, () -> tower.length(0));
        Check.fails(2, INDEX, () -> tower.setConductor(0));
        Check.fails(2, INDEX, () -> tower.tell(0, 'l'));
        Check.fails(2, SUPPORT, () -> tower.method());
        Check.due(2, 0, tower.tried());
        Check.due(2, 1, tower.wish(2));
        Check.due(2, 0, tower.pattern());
        Check.due(2, 0, tower.rule(1, 1, 1, true));
        Check.due(2, 1, tower.setWeight(2, 3));
        tower.ringer(1, 0, 2);
        Check.due(2, 0, tower.setConductor(0));
        tower.change(0);
        tower.method();
        Check.due(2, false, tower.learn(0, 0, true));
        tower.block();
        Check.due(2, 0L, tower.length(0));
        Check.due(2, 4, tower.setBells(8));
        Check.due(2, 8, tower.setBells(7));
    }

    private static void fillAll(Changeringer tower) {
        Check.method(tower, 0);
        tower.change(0);
        tower.seek(0, 1, 1, 2);
        tower.wish(2);
        tower.pattern();
        tower.wish(2);
        for (int ringer = 0; ringer < 4; ringer++) {
            tower.ringer(9, 0, 2);
            tower.learn(ringer, 0, true);
        }
        tower.setWeight(2, 5);
        tower.setConductor(3);
        tower.perform(1, 1);
        tower.rule(1, 1, 1, false);
    }

    private static void changes() {
        Changeringer tower = new Changeringer();
        Check.due(3, 1, tower.change(0));
        Check.due(3, 2, tower.change(33));
        Check.due(3, 3, tower.change(3));
        Check.due(3, 4, tower.change(15));
        Check.due(3, 5, tower.change(48));
        for (int places : new int[] {1, 2, 32, 5, 63, 64, 97, 128, -1, -64, Integer.MIN_VALUE, Integer.MAX_VALUE}) {
            Check.fails(3, ARGUMENT, () -> tower.change(places));
        }
        for (int size = 6; size <= 40; size++) {
            Check.due(3, size, tower.change(0));
        }
        Check.fails(3, ARGUMENT, () -> tower.change(1));
        Check.fails(3, STATE, () -> tower.change(0));
        Check.due(3, 0, tower.method());
        Check.due(3, 1, tower.change(0));
        Changeringer odd = Check.tower(5);
        Check.fails(3, ARGUMENT, () -> odd.change(0));
        Check.fails(3, ARGUMENT, () -> odd.change(31));
        Check.due(3, 1, odd.change(1));
        Check.due(3, 2, odd.change(16));
        Check.due(3, 3, odd.change(4));
        Changeringer eight = Check.tower(8);
        Check.due(3, 1, eight.change(129));
        Check.fails(3, ARGUMENT, () -> eight.change(255));
        Check.fails(3, ARGUMENT, () -> eight.change(256));
    }

    private static void methods() {
        Changeringer tower = new Changeringer();
        Check.fails(4, SUPPORT, () -> tower.method());
        for (int method = 0; method < 6; method++) {
            tower.change(0);
            Check.due(4, method, tower.method());
            Check.fails(4, SUPPORT, () -> tower.method());
        }
        tower.change(33);
        Check.fails(4, STATE, () -> tower.method());
        Check.due(4, 2, tower.change(0));
    }

    private static void calls() {
        Changeringer tower = Check.minor();
        Check.due(5, 9, tower.setCall(0, 'b', 11, 33));
        Check.due(5, 15, tower.setCall(0, 's', 11, 15));
        Check.due(5, 33, tower.setCall(0, 'b', 11, 9));
        Check.due(5, 33, tower.setCall(0, 'b', 5, 0));
        // the change told last is the only one, so that the end of the lead is plain again
        Check.due(5, 3, tower.setCall(0, 'b', 11, 9));
        Check.due(5, 33, tower.setCall(0, 'b', 5, 0));
        Check.due(5, 0, tower.setCall(0, 'b', 5, 33));
        Check.due(5, 4, tower.brings(0, 'b', 2));
        for (int method : new int[] {-1, 1, 6}) {
            Check.fails(5, INDEX, () -> tower.setCall(method, 'b', 0, 0));
        }
        Check.fails(5, INDEX, () -> tower.setCall(0, 'b', 12, 0));
        Check.fails(5, INDEX, () -> tower.setCall(0, 'b', -1, 0));
        Check.fails(5, INDEX, () -> tower.setCall(0, 'p', 12, 1));
        Check.fails(5, ARGUMENT, () -> tower.setCall(0, 'p', 0, 0));
        Check.fails(5, ARGUMENT, () -> tower.setCall(0, 'B', 0, 0));
        Check.fails(5, ARGUMENT, () -> tower.setCall(0, 's', 0, 1));
        Check.fails(5, ARGUMENT, () -> tower.setCall(0, 's', 0, 64));
        Check.due(5, 15, tower.setCall(0, 's', 11, 15));
        // blocks are rung by the calls as they are then
        int block = Check.block(tower, 0, "b");
        Check.due(5, "135264", Check.row(tower, block, 12, 6));
        tower.setCall(0, 'b', 11, 9);
        Check.due(5, "123564", Check.row(tower, block, 12, 6));
        tower.setCall(0, 'b', 11, 15);
        Check.due(5, "132564", Check.row(tower, block, 12, 6));
    }

    private static void kinds() {
        Check.due(6, 'h', Check.minimus().kindOf(0));
        Check.due(6, 'h', Check.doubles().kindOf(0));
        Check.due(6, 'h', Check.minor().kindOf(0));
        Check.due(6, 'h', Check.major().kindOf(0));
        Changeringer tower = Check.tower(4);
        Check.due(6, 'l', tower.kindOf(Check.method(tower, 0)));
        Check.due(6, 't', tower.kindOf(Check.method(tower, 3)));
        Check.due(6, 't', tower.kindOf(Check.method(tower, 0, 0, 9)));
        Check.due(6, 'a', tower.kindOf(Check.method(tower, 0, 3, 0)));
        // up to the last place and back, but one change longer at the end
        Check.due(6, 'a', tower.kindOf(Check.method(tower, 0, 9, 0, 9, 0, 9, 0, 3, 3)));
        // the same path with the bell 1 one change longer behind
        Check.due(6, 't', tower.kindOf(Check.method(tower, 0, 9, 0, 9, 9, 0, 9, 0, 3)));
        Check.fails(6, INDEX, () -> tower.kindOf(6));
        Check.fails(6, INDEX, () -> tower.kindOf(-1));
        // a call does not change what kind of a method it is
        tower.setCall(1, 'b', 0, 0);
        Check.due(6, 't', tower.kindOf(1));
        // as long as a hunt, mirrored, but not up by one place in each change
        Changeringer six = new Changeringer();
        Check.due(6, 't', six.kindOf(Check.method(six, 0, 0, 0, 0, 0, 3, 0, 0, 0, 0, 0, 3)));
    }

    private static void even() {
        Changeringer tower = Check.tower(4);
        Check.due(7, true, tower.isEven(Check.method(tower, 0)));
        Check.due(7, true, tower.isEven(Check.method(tower, 0, 3)));
        Check.due(7, true, tower.isEven(Check.method(tower, 0, 9, 0, 3)));
        Check.due(7, false, tower.isEven(Check.method(tower, 0, 3, 0)));
        Check.due(7, false, tower.isEven(Check.method(tower, 0, 3, 9, 0, 3)));
        Check.due(7, true, Check.minimus().isEven(0));
        Check.fails(7, INDEX, () -> tower.isEven(5));
        Check.fails(7, INDEX, () -> tower.isEven(-1));
        tower.setCall(2, 'b', 0, 9);
        Check.due(7, true, tower.isEven(2));
    }

    private static void leadsAndRings() {
        Check.due(8, 3, Check.minimus().leads(0));
        Check.due(8, 4, Check.doubles().leads(0));
        Check.due(8, 5, Check.minor().leads(0));
        Check.due(8, 7, Check.major().leads(0));
        Check.due(9, 1, Check.major().rings(0));
        Check.due(9, 1, Check.minor().rings(0));
        Changeringer tower = new Changeringer();
        Check.method(tower, 0);
        Check.due(8, 2, tower.leads(0));
        Check.due(9, 3, tower.rings(0));
        Check.method(tower, 0, 0);
        Check.due(8, 1, tower.leads(1));
        Check.due(9, 0, tower.rings(1));
        Check.method(tower, 60);
        Check.due(8, 2, tower.leads(2));
        Check.due(9, 1, tower.rings(2));
        // 1 and 2 change; 3, 4 and 5 go round: a ring of two and one of three
        Check.method(tower, 36, 51, 36, 51, 60);
        Check.due(9, 2, tower.rings(3));
        Check.due(8, 6, tower.leads(3));
        for (int method : new int[] {-1, 4}) {
            Check.fails(8, INDEX, () -> tower.leads(method));
            Check.fails(9, INDEX, () -> tower.rings(method));
        }
        tower.setCall(0, 'b', 0, 60);
        Check.due(8, 2, tower.leads(0));
        Check.due(9, 3, tower.rings(0));
    }

    private static void brings() {
        Changeringer tower = Check.minor();
        int[] plain = {1, 4, 2, 6, 3, 5};
        int[] bob = {1, 2, 3, 6, 4, 5};
        int[] single = {1, 3, 2, 6, 4, 5};
        for (int place = 1; place <= 6; place++) {
            Check.due(10, plain[place - 1], tower.brings(0, 'p', place));
            Check.due(10, bob[place - 1], tower.brings(0, 'b', place));
            Check.due(10, single[place - 1], tower.brings(0, 's', place));
        }
        Check.fails(10, INDEX, () -> tower.brings(0, 'p', 0));
        Check.fails(10, INDEX, () -> tower.brings(0, 'p', 7));
        Check.fails(10, INDEX, () -> tower.brings(1, 'q', 1));
        Check.fails(10, INDEX, () -> tower.brings(0, 'q', 7));
        Check.fails(10, ARGUMENT, () -> tower.brings(0, 'q', 1));
        Check.fails(10, ARGUMENT, () -> tower.brings(0, 'P', 1));
    }
}
