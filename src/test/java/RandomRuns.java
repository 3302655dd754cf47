import java.lang.reflect.InvocationTargetException;
import java.lang.reflect.Method;
import java.util.ArrayList;
import java.util.Arrays;
import java.util.HashMap;
import java.util.List;
import java.util.Map;
import java.util.Random;
import java.util.TreeMap;

/** Runs of calls by fixed seeds: the program and the model must answer alike, exceptions too. */
public final class RandomRuns {
    private static final Map<String, Method> FACE = faceOf(Changeringer.class);
    private static final Map<String, Method> MODEL = faceOf(Model.class);
    private static final String CALLS = "pbs";

    private final Map<String, Map<String, Integer>> seen;
    private final Random random;
    private final Changeringer program = new Changeringer();
    private final Model model = new Model();
    private final List<String> told = new ArrayList<>();
    private int bells = 6;
    private int methods;
    private int blocks;
    private int patterns;
    private int ringers;
    private int performances;
    private final List<Integer> rounds = new ArrayList<>();
    private boolean isWrong;

    private RandomRuns(long seed, Map<String, Map<String, Integer>> seen) {
        random = new Random(seed);
        this.seen = seen;
    }

    public static void main(String[] args) {
        long first = args.length > 0 ? Long.parseLong(args[0]) : 1;
        int runs = args.length > 1 ? Integer.parseInt(args[1]) : 400;
        Map<String, Map<String, Integer>> seen = new TreeMap<>();
        boolean isWrong = false;
        for (long seed = first; seed < first + runs && !isWrong; seed++) {
            RandomRuns run = new RandomRuns(seed, seen);
            run.go();
            isWrong = run.isWrong;
        }
        if (args.length > 2) {
            seen.forEach((name, answers) -> System.out.println(name + " " + answers));
        }
        for (String name : FACE.keySet()) {
            if (!seen.containsKey(name)) {
                System.out.println("never called: " + name);
                isWrong = true;
            }
        }
        if (isWrong) {
            System.exit(1);
        }
        System.out.println("random runs: " + runs + " runs are alike");
    }

    private static Map<String, Method> faceOf(Class<?> type) {
        Map<String, Method> face = new HashMap<>();
        for (Method method : type.getDeclaredMethods()) {
            if (java.lang.reflect.Modifier.isPublic(method.getModifiers())) {
                method.setAccessible(true);
                face.put(method.getName(), method);
            }
        }
        return face;
    }

    private static Object answer(Method method, Object target, Object[] args) {
        try {
            return method.invoke(target, args);
        } catch (InvocationTargetException thrown) {
            return "throws." + thrown.getCause().getClass().getSimpleName();
        } catch (IllegalAccessException e) {
            throw new AssertionError(e);
        }
    }

    private Object call(String name, Object... args) {
        if (told.size() >= 512 || isWrong) {
            return null;
        }
        Object got = answer(FACE.get(name), program, args);
        Object due = answer(MODEL.get(name), model, args);
        String text = name + Arrays.toString(args) + " = " + got;
        told.add(text);
        String what = due instanceof String || due instanceof Boolean || due instanceof Character ? "" + due
                : ((Number) due).doubleValue() == 0 ? "0" : "a number";
        seen.computeIfAbsent(name, key -> new TreeMap<>()).merge(what, 1, Integer::sum);
        if (!got.equals(due)) {
            isWrong = true;
            told.forEach(System.out::println);
            System.out.println("due is " + due);
        }
        return got;
    }

    private int tellAdded(String name, Object... args) {
        Object got = call(name, args);
        return got instanceof Integer ? 1 : 0;
    }

    private int in(int low, int high) {
        return low + random.nextInt(high - low + 1);
    }

    private boolean is(int percent) {
        return random.nextInt(100) < percent;
    }

    /** Mostly a number of something that is there, now and then one beside it. */
    private int one(int size) {
        return size == 0 || is(6) ? in(-1, size + 1) : random.nextInt(size);
    }

    private int place() {
        return is(6) ? in(-1, 9) : in(1, bells);
    }

    private char letter(String letters) {
        return is(5) ? (char) in(0, 255) : letters.charAt(random.nextInt(letters.length()));
    }

    private int lawful() {
        int places = 0;
        boolean moves = false;
        for (int place = 0; place < bells; place++) {
            if (place + 1 < bells && random.nextInt(5) > 1) {
                place++;
                moves = true;
            } else {
                places |= 1 << place;
            }
        }
        return moves ? places : lawful();
    }

    private int places() {
        return is(8) ? in(-3, 300) : lawful();
    }

    private void go() {
        if (is(75)) {
            setBells(in(4, is(30) ? 8 : 6));
        }
        int theme = random.nextInt(4);
        if (theme > 0) {
            prepare(theme);
        }
        while (told.size() < 512 && !isWrong) {
            step(random.nextInt(100));
        }
    }

    private void prepare(int theme) {
        for (int made = in(1, 3); made > 0; made--) {
            makeMethod();
        }
        makeRound();
        makeRound();
        if (theme == 1) {
            hire();
            hire();
            call("setWeight", in(1, bells), in(1, 4));
            for (int made = in(1, 12); made > 0; made--) {
                performances += tellAdded("perform", roundBlock(), in(0, 99999));
            }
            for (int made = in(1, 8); made > 0; made--) {
                call("rule", in(0, 30), in(0, 40), in(0, 40), is(50));
            }
        } else if (theme == 2) {
            for (int asked = 0; asked < 20; asked++) {
                compose();
            }
        } else {
            for (int asked = 0; asked < 100; asked++) {
                askBlock();
            }
        }
    }

    private void step(int kind) {
        if (methods == 0 || kind < 2) {
            makeMethod();
        } else if (blocks == 0 || kind < 3) {
            makeBlock();
        } else if (kind < 8) {
            makeRound();
        } else if (kind < 9 || ringers == 0) {
            hire();
        } else if (kind < 20) {
            askMethod();
        } else if (kind < 45) {
            askBlock();
        } else if (kind < 50) {
            askPatterns();
        } else if (kind < 54) {
            compose();
        } else if (kind < 66) {
            askRingers();
        } else if (kind < 92) {
            askPerformances();
        } else if (kind < 93 && is(8)) {
            setBells(in(2, 10));
        } else if (kind < 95) {
            call("isSound");
        } else {
            build();
        }
    }

    private void setBells(int number) {
        if (call("setBells", number) instanceof Integer) {
            bells = number;
            methods = 0;
            blocks = 0;
            patterns = 0;
            ringers = 0;
            performances = 0;
            rounds.clear();
        }
    }

    private void makeMethod() {
        if (methods >= 6 && is(80)) {
            return;
        }
        int kind = random.nextInt(10);
        if (kind < 5) {
            makeHunt();
        } else if (kind < 8) {
            int half = in(1, 4);
            List<Integer> changes = new ArrayList<>();
            for (int at = 0; at < half; at++) {
                changes.add(lawful());
            }
            for (int at = half; at < 2 * half - 1; at++) {
                changes.add(changes.get(2 * half - 2 - at));
            }
            changes.add(lawful());
            changes.forEach(change -> call("change", change));
        } else {
            int size = is(10) ? in(30, 43) : in(0, 6);
            for (int at = 0; at < size; at++) {
                call("change", places());
            }
        }
        methods += tellAdded("method");
    }

    private void makeHunt() {
        int low = 1;
        int high = 1 << bells - 1;
        boolean isEven = bells % 2 == 0;
        for (int at = 0; at < 2 * bells - 1; at++) {
            call("change", at % 2 == 0 ? (isEven ? 0 : high) : (isEven ? low | high : low));
        }
        call("change", isEven ? 3 : 3 | high);
        if (is(60)) {
            int method = methods;
            methods += tellAdded("method");
            call("setCall", method, 'b', 2 * bells - 1, isEven ? low | high : low);
            call("setCall", method, 's', 2 * bells - 1, lawful());
            if (bells >= 6) {
                call("setCall", method, 's', 2 * bells - 1, (isEven ? 0 : high) | 15);
            }
        }
    }

    private void makeBlock() {
        int block = blocks;
        blocks += tellAdded("block");
        if (block == blocks) {
            return;
        }
        int items = is(5) ? in(18, 22) : is(15) ? 0 : in(1, 4);
        int method = one(methods);
        for (int item = 0; item < items; item++) {
            if (block > 0 && is(25)) {
                call("again", block, one(block), is(10) ? in(-1, 22) : is(10) ? in(10, 20) : in(1, 4));
            } else {
                call("lead", block, is(70) ? method : one(methods), letter(CALLS));
            }
        }
    }

    private int roundBlock() {
        return rounds.isEmpty() || is(20) ? one(blocks) : rounds.get(random.nextInt(rounds.size()));
    }

    /** A part that is rung as often as it takes to come round, if the blocks suffice. */
    private void makeRound() {
        int part = blocks;
        makeBlock();
        if (part < blocks && blocks < 10) {
            int whole = blocks;
            blocks += tellAdded("block");
            for (int time = 0; time < 12 && (time == 0 || !Boolean.TRUE.equals(call("comesRound", whole)));
                    time++) {
                call("again", whole, part, 1);
            }
            rounds.add(whole);
        }
    }

    private void hire() {
        int many = is(50) ? in(1, 6) : 12 - ringers;
        for (int ringer = 0; ringer < many; ringer++) {
            int memory = is(40) ? 99 : is(60) ? in(2, 9) : in(2, 99);
            boolean isWrong = is(4);
            int added = tellAdded("ringer", isWrong ? in(-1, 11) : in(3, 9), isWrong ? in(-1, 32) : in(0, 30),
                    isWrong ? in(0, 101) : memory);
            for (int method = 0; method < methods; method++) {
                if (added > 0 && is(92)) {
                    call("learn", ringers, method, true);
                }
            }
            ringers += added;
        }
    }

    private void askMethod() {
        int method = one(methods);
        switch (random.nextInt(8)) {
            case 0: call("kindOf", method); break;
            case 1: call("isEven", method); break;
            case 2: call("leads", method); break;
            case 3: call("rings", method); break;
            case 4: call("brings", method, letter(CALLS), place()); break;
            case 5:
                if (bells < 7 || is(10)) {
                    call("falseHeads", method, letter(CALLS), one(methods), letter(CALLS));
                }
                break;
            case 6: call("change", places()); break;
            default: call("setCall", method, letter("bs"), in(is(5) ? -1 : 0, is(80) ? 3 : 40), places());
        }
    }

    private void askBlock() {
        int block = one(blocks);
        switch (random.nextInt(13)) {
            case 0: call("length", block); break;
            case 1: call("bellAt", block, is(50) ? in(-1, 12) : in(0, 300), place()); break;
            case 2: call("comesRound", block); break;
            case 3: call("isTrue", block, is(5) ? in(-1, 5) : 1); break;
            case 4: call("isTrue", block, 2); break;
            case 5: call("isTrue", block, 3); break;
            case 6: call("firstFalse", block); break;
            case 7: call("level", block); break;
            case 8: call("isLawful", block); break;
            case 9: call("changesOfMethod", block); break;
            case 10: call("work", block, one(methods)); break;
            case 11: call("struck", block, place()); break;
            default: call("checksum", block);
        }
    }

    private void askPatterns() {
        switch (random.nextInt(4)) {
            case 0:
                patterns += tellAdded("pattern");
                break;
            case 1:
                for (int wish = is(50) ? 1 : bells; wish > 0; wish--) {
                    call("wish", is(30) ? 0 : place());
                }
                break;
            default: call("music", one(blocks), one(patterns), letter("hba"));
        }
    }

    private void compose() {
        int kind = random.nextInt(10);
        if (kind < 5) {
            Object got = call("seek", one(methods), is(5) ? in(0, 22) : is(15) ? in(8, 20) : in(1, 7),
                    is(5) ? in(0, 4) : in(1, 3), is(5) ? in(0, 7) : is(60) ? 1 : in(2, 6));
            if (got instanceof Integer) {
                blocks = (Integer) got + 1;
                rounds.add(blocks - 1);
            }
            call("tried");
        } else if (kind < 9) {
            call("count", one(methods), is(5) ? in(0, 14) : is(15) ? in(8, 12) : in(1, 7),
                    is(5) ? in(0, 4) : in(1, 3));
        } else {
            call("tried");
        }
    }

    private void askRingers() {
        switch (random.nextInt(7)) {
            case 0: call("learn", one(ringers), one(methods), is(85)); break;
            case 1: call("setWeight", place(), is(10) ? in(-1, 11) : in(1, 6)); break;
            case 2: call("setConductor", one(ringers)); break;
            case 3: call("ringerFor", one(blocks), place()); break;
            case 4: call("bands", one(blocks)); break;
            case 5:
                if (ringers < bells + 2) {
                    hire();
                }
                break;
            default: call("bands", one(blocks));
        }
    }

    private void askPerformances() {
        int performance = one(performances);
        switch (random.nextInt(12)) {
            case 0:
            case 1:
                performances += tellAdded("perform", roundBlock(), is(5) ? in(-1, 100001) : in(0, 99999));
                break;
            case 2:
            case 3: call("rungAt", performance, is(20) ? in(-1, 400) : in(0, 30), place()); break;
            case 4:
            case 5: call("tell", performance, letter("lsmfhr")); break;
            case 6: call("meanError", performance); break;
            case 7: call("rule", is(6) ? in(-1, 100001) : in(0, 30), is(6) ? in(-1, 10001) : in(0, 40),
                    is(6) ? in(-1, 101) : in(0, 40), is(50)); break;
            case 8: call("handIn", performance, is(6) ? in(-1, 100001) : in(0, 40)); break;
            case 9: call("counts", performance); break;
            case 10: call("record", is(10) ? in(-2, 100002) : in(0, 40)); break;
            default: call("mendedShare");
        }
    }

    private void build() {
        switch (random.nextInt(4)) {
            case 0: call("lead", one(blocks), one(methods), letter(CALLS)); break;
            case 1: call("again", one(blocks), one(blocks), is(10) ? in(-1, 22) : in(1, 20)); break;
            case 2:
                methods += tellAdded("method");
                break;
            default:
                blocks += is(20) ? tellAdded("block") : 0;
        }
    }
}
