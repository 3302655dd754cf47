import java.io.IOException;
import java.nio.file.Files;
import java.nio.file.Path;

/** The example of README.md: its answers, and that it stands there as it stands here. */
public final class ReadmeTests {
    private static final Path SOURCE = Path.of("src/test/java/ReadmeTests.java");

    public static void main(String[] args) throws IOException {
        example();
        sameText();
        Check.end("ReadmeTests");
    }

    private static void example() {
        Changeringer tower = new Changeringer();
        for (int places : new int[] {0, 33, 0, 33, 0, 33, 0, 33, 0, 33, 0, 3}) {
            tower.change(places);
        }
        int method = tower.method();
        Check.due(5, 3, tower.setCall(method, 'b', 11, 9));
        int block = tower.seek(method, 6, 2, 1);
        Check.due(14, 72L, tower.length(block));
        Check.due(29, 22, tower.tried());
        Check.due(15, 3, tower.bellAt(block, 12, 2));
        Check.due(15, "135264", Check.row(tower, block, 12, 6));
        Check.due(17, true, tower.isTrue(block, 2));
        for (int bell : new int[] {0, 0, 3, 4, 5, 6}) {
            tower.wish(bell);
        }
        int pattern = tower.pattern();
        Check.due(27, 1, tower.music(block, pattern, 'a'));
        for (int number = 0; number < 6; number++) {
            Check.due(31, number, tower.ringer(5, 10, 30));
            Check.due(32, false, tower.learn(number, method, true));
        }
        int performance = tower.perform(block, 1);
        Check.due(39, 0, tower.tell(performance, 's'));
        Check.due(41, 0, tower.rule(0, 60, 3, false));
        Check.due(42, -1, tower.handIn(performance, 7));
        Check.due(44, performance, tower.record(7));
    }

    private static void sameText() throws IOException {
        String here = Files.readString(SOURCE);
        String readme = Files.readString(Path.of("README.md"));
        int begin = readme.indexOf("```java") + "```java".length();
        String example = readme.substring(begin, readme.indexOf("```\n", begin));
        for (String line : example.split("\n")) {
            String code = line.replaceAll("//.*", "").replaceAll(";\\s*$", "").strip();
            Check.due(0, code, here.contains(code) ? code : "not in the test");
        }
    }
}
