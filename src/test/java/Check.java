/** What the tests of the promises share: answers that are due, exceptions that are due, and towers to begin with. */
final class Check {
    /** A call that is to be looked at. */
    interface Call {
        Object make();
    }

    private static int wrong;
    private static int checked;

    private Check() {
    }

    static void due(int promise, Object want, Object got) {
        checked++;
        if (!want.equals(got)) {
            wrong++;
            System.out.println("promise " + promise + ": due is " + want + ", answered was " + got + where());
        }
    }

    static void fails(int promise, Class<? extends RuntimeException> want, Call call) {
        Object got;
        try {
            got = call.make();
        } catch (RuntimeException thrown) {
            got = thrown.getClass();
        }
        due(promise, want, got);
    }

    private static String where() {
        for (StackTraceElement element : new Throwable().getStackTrace()) {
            if (!element.getClassName().equals("Check")) {
                return " at " + element;
            }
        }
        return "";
    }

    static void end(String name) {
        if (wrong > 0) {
            System.out.println(name + ": " + wrong + " of " + checked + " answers are not as due");
            System.exit(1);
        }
        System.out.println(name + ": all " + checked + " answers are as due");
    }

    static Changeringer tower(int bells) {
        Changeringer tower = new Changeringer();
        tower.setBells(bells);
        return tower;
    }

    /** Adds a method of these changes. */
    static int method(Changeringer tower, int... changes) {
        for (int change : changes) {
            tower.change(change);
        }
        return tower.method();
    }

    /** A block of leads of one method with these calls. */
    static int block(Changeringer tower, int method, String calls) {
        int block = tower.block();
        for (char call : calls.toCharArray()) {
            tower.lead(block, method, call);
        }
        return block;
    }

    /** Plain Bob Minimus, with the bob 14 and the single 1234 where 4 bells allow them. */
    static Changeringer minimus() {
        Changeringer tower = tower(4);
        method(tower, 0, 9, 0, 9, 0, 9, 0, 3);
        tower.setCall(0, 'b', 7, 9);
        tower.setCall(0, 's', 7, 12);
        return tower;
    }

    /** Plain Bob Minimus and, as method 1, a principle of one change. */
    static Changeringer spliced() {
        Changeringer tower = minimus();
        method(tower, 0);
        return tower;
    }

    /** Plain Bob Doubles: bob 145, single 123. */
    static Changeringer doubles() {
        Changeringer tower = tower(5);
        method(tower, 16, 1, 16, 1, 16, 1, 16, 1, 16, 19);
        tower.setCall(0, 'b', 9, 25);
        tower.setCall(0, 's', 9, 7);
        return tower;
    }

    /** Plain Bob Minor: bob 14, single 1234. */
    static Changeringer minor() {
        Changeringer tower = tower(6);
        method(tower, 0, 33, 0, 33, 0, 33, 0, 33, 0, 33, 0, 3);
        tower.setCall(0, 'b', 11, 9);
        tower.setCall(0, 's', 11, 15);
        return tower;
    }

    /** Plain Bob Major: bob 14, single 1234. */
    static Changeringer major() {
        Changeringer tower = tower(8);
        method(tower, 0, 129, 0, 129, 0, 129, 0, 129, 0, 129, 0, 129, 0, 129, 0, 3);
        tower.setCall(0, 'b', 15, 9);
        tower.setCall(0, 's', 15, 15);
        return tower;
    }

    static String row(Changeringer tower, int block, int row, int bells) {
        StringBuilder text = new StringBuilder();
        for (int place = 1; place <= bells; place++) {
            text.append(tower.bellAt(block, row, place));
        }
        return text.toString();
    }

    static String rung(Changeringer tower, int performance, int row, int bells) {
        StringBuilder text = new StringBuilder();
        for (int place = 1; place <= bells; place++) {
            text.append(tower.rungAt(performance, row, place));
        }
        return text.toString();
    }
}
