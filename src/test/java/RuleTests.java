import java.io.IOException;
import java.lang.management.ManagementFactory;
import java.lang.reflect.Field;
import java.lang.reflect.Member;
import java.lang.reflect.Method;
import java.lang.reflect.Modifier;
import java.nio.file.Files;
import java.nio.file.Path;
import java.util.Set;
import java.util.TreeSet;
import java.util.regex.Matcher;
import java.util.regex.Pattern;

/** The face, the rules of the language as far as a text shows them, and the room that calls take. */
public final class RuleTests {
    private static final Path SOURCE = Path.of("src/main/java/Changeringer.java");
    private static final String[] FORBIDDEN = {"->", "::", "\\btry\\b", "\\bcatch\\b", "\\bfinally\\b", "\\bassert\\b",
        "\\bsynchronized\\b", "\\bprotected\\b", "\\bstatic \\{", "\\bSystem\\.(?!arraycopy)", "\\bhashCode\\b",
        "\\bequals\\b", "\\btoString\\b", "Exact\\(", "\\bHashMap\\b", "\\bThread\\b", "\\bRandom\\b", "\" \\+", "\\+ \""};

    public static void main(String[] args) throws IOException {
        face();
        text();
        room();
        Check.end("RuleTests");
    }

    private static void face() {
        Set<String> shown = new TreeSet<>();
        Set<String> hidden = new TreeSet<>();
        for (Method method : Changeringer.class.getDeclaredMethods()) {
            (Modifier.isPrivate(method.getModifiers()) ? hidden : shown).add(method.getName());
            Check.due(0, true, isPublicOrPrivate(method));
        }
        for (Field field : Changeringer.class.getDeclaredFields()) {
            Check.due(0, true, Modifier.isPrivate(field.getModifiers()));
        }
        Set<String> due = new TreeSet<>();
        for (Method method : Model.class.getDeclaredMethods()) {
            if (Modifier.isPublic(method.getModifiers())) {
                due.add(method.getName());
            }
        }
        Check.due(0, due, shown);
        hidden.retainAll(shown);
        Check.due(0, Set.of(), hidden);
        Check.due(0, 1, Changeringer.class.getConstructors().length);
        for (Class<?> inner : Changeringer.class.getDeclaredClasses()) {
            Check.due(0, true, Modifier.isStatic(inner.getModifiers()) && Modifier.isPrivate(inner.getModifiers()));
            for (Method method : inner.getDeclaredMethods()) {
                Check.due(0, false, Modifier.isPrivate(method.getModifiers()) && shown.contains(method.getName()));
                Check.due(0, true, method.getParameterCount() <= 7);
            }
        }
        Check.due(0, true, Changeringer.class.getDeclaredClasses().length <= 12);
    }

    private static boolean isPublicOrPrivate(Member member) {
        return Modifier.isPublic(member.getModifiers()) || Modifier.isPrivate(member.getModifiers());
    }

    private static void text() throws IOException {
        String text = Files.readString(SOURCE).replaceAll("(?s)/\\*.*?\\*/", "").replaceAll("//[^\n]*", "");
        for (String forbidden : FORBIDDEN) {
            Matcher matcher = Pattern.compile(forbidden).matcher(text);
            Check.due(0, "", matcher.find() ? matcher.group() : "");
        }
        Matcher thrown = Pattern.compile("throw (?!new \\w+\\((\"[^\"]*\")?\\);)[^;]*").matcher(text);
        Check.due(0, "", thrown.find() ? thrown.group() : "");
        Matcher imported = Pattern.compile("import ([\\w.]+);").matcher(text);
        while (imported.find()) {
            Check.due(0, true, Set.of("java.util.Arrays", "java.util.NoSuchElementException")
                    .contains(imported.group(1)));
        }
    }

    /** All calls live in one room: what is kept is made with the object, and calls make nothing but exceptions. */
    private static void room() {
        long[] made = new long[3];
        for (int time = 0; time < made.length; time++) {
            long before = bytes();
            Changeringer tower = Check.major();
            long ready = bytes();
            use(tower);
            made[time] = bytes() - ready;
            Check.due(0, true, ready - before < 1000000);
        }
        Check.due(0, true, made[2] < 20000);
    }

    private static long bytes() {
        return ((com.sun.management.ThreadMXBean) ManagementFactory.getThreadMXBean())
                .getThreadAllocatedBytes(Thread.currentThread().getId());
    }

    private static void use(Changeringer tower) {
        for (int ringer = 0; ringer < 12; ringer++) {
            tower.ringer(9, 30, 2 + ringer);
            tower.learn(ringer, 0, true);
        }
        int whole = tower.seek(0, 14, 2, 1);
        for (int time = 0; time < 20; time++) {
            int heads = tower.falseHeads(0, 'p', 0, 's');
            tower.count(0, 5, 3);
            tower.isTrue(whole, 1);
            tower.isTrue(whole, 2);
            tower.isTrue(whole, 3);
            tower.checksum(whole);
            tower.isLawful(whole);
            tower.kindOf(0);
            tower.bands(whole);
            tower.isSound();
            if (time < 12) {
                tower.perform(whole, heads);
                tower.handIn(time, time);
            }
            if (time < 8) {
                tower.wish(time + 1);
                tower.pattern();
                tower.rule(time, 0, 99, true);
            }
            tower.counts(0);
        }
        for (int bells = 4; bells <= 8; bells++) {
            tower.setBells(bells);
        }
    }
}
