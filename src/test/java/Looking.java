import java.util.function.Supplier;

/** All that can be seen of a tower of 4 to 8 bells, as a text; what is seen only by changing the tower comes last. */
final class Looking {
    private final Changeringer tower;
    private final StringBuilder seen = new StringBuilder();

    private Looking(Changeringer tower) {
        this.tower = tower;
    }

    static String look(Changeringer tower) {
        Looking looking = new Looking(tower);
        looking.methods();
        looking.blocks();
        looking.performances();
        looking.changing();
        return looking.seen.toString();
    }

    /** The first line in which two looks differ, of both; empty if they are alike. */
    static String difference(String before, String after) {
        String[] lines = before.split("\n");
        String[] later = after.split("\n");
        for (int line = 0; line < Math.min(lines.length, later.length); line++) {
            if (!lines[line].equals(later[line])) {
                return lines[line] + " | " + later[line];
            }
        }
        return before.equals(after) ? "" : "other lines";
    }

    private void see(Supplier<Object> question) {
        String answer;
        try {
            answer = String.valueOf(question.get());
        } catch (RuntimeException thrown) {
            answer = thrown.getClass().getSimpleName();
        }
        seen.append(answer).append(' ');
    }

    private void methods() {
        for (int number = 0; number < 6; number++) {
            int method = number;
            seen.append("\nmethod ").append(method).append(": ");
            see(() -> tower.kindOf(method));
            see(() -> tower.isEven(method));
            see(() -> tower.leads(method));
            see(() -> tower.rings(method));
            for (char call : "pbs".toCharArray()) {
                for (int at = 1; at <= 8; at++) {
                    int place = at;
                    see(() -> tower.brings(method, call, place));
                }
                see(() -> tower.falseHeads(method, call, 0, 'p'));
            }
        }
    }

    private void blocks() {
        see(() -> tower.tried());
        see(() -> tower.isSound());
        for (int number = 0; number < 10; number++) {
            int block = number;
            seen.append("\nblock ").append(block).append(": ");
            see(() -> tower.length(block));
            see(() -> tower.checksum(block));
            see(() -> tower.level(block));
            see(() -> tower.isLawful(block));
            see(() -> tower.changesOfMethod(block));
            see(() -> tower.bands(block));
            for (int other = 0; other < 8; other++) {
                int method = other;
                see(() -> tower.work(block, method));
                see(() -> tower.struck(block, method + 1));
                see(() -> tower.music(block, method, 'h'));
                see(() -> tower.music(block, method, 'b'));
                see(() -> tower.ringerFor(block, method + 1));
            }
        }
    }

    private void performances() {
        for (int number = 0; number < 12; number++) {
            int performance = number;
            seen.append("\nperformance ").append(performance).append(": ");
            for (char what : "lsmfhr".toCharArray()) {
                see(() -> tower.tell(performance, what));
            }
            see(() -> tower.meanError(performance));
            see(() -> tower.counts(performance));
            for (int row = 0; row < 40; row++) {
                int rung = row;
                see(() -> tower.rungAt(performance, rung, 1));
                see(() -> tower.rungAt(performance, rung, 2));
                see(() -> tower.rungAt(performance, rung, 3));
            }
        }
        see(() -> tower.mendedShare());
        for (int day : new int[] {0, 5, 9, 10, 99999}) {
            see(() -> tower.record(day));
        }
    }

    private void changing() {
        seen.append("\nweights and ringers: ");
        for (int number = 0; number < 12; number++) {
            int other = number;
            see(() -> tower.setWeight(other, 1));
            see(() -> tower.handIn(other, 5));
            for (int method = 0; method < 6; method++) {
                int learnt = method;
                see(() -> tower.learn(other, learnt, true));
            }
        }
        see(() -> tower.setConductor(0));
        see(() -> tower.ringer(1, 0, 2));
        seen.append("\nnext ones: ");
        see(() -> tower.wish(0));
        see(() -> tower.wish(4));
        see(() -> tower.pattern());
        see(() -> tower.music(0, 1, 'a'));
        for (int block = 0; block < 10; block++) {
            int longer = block;
            see(() -> tower.lead(longer, 0, 'p'));
        }
        see(() -> tower.block());
        see(() -> tower.rule(0, 0, 99, true));
        for (int performance = 0; performance < 12; performance++) {
            int handed = performance;
            see(() -> tower.counts(handed));
        }
        see(() -> tower.perform(0, 3));
        calls();
        see(() -> tower.change(0));
        see(() -> tower.method());
        see(() -> tower.kindOf(2));
        see(() -> tower.leads(2));
        see(() -> tower.setBells(7));
    }

    private void calls() {
        for (int number = 0; number < 6; number++) {
            int method = number;
            for (int change = 0; change < 9; change++) {
                int at = change;
                see(() -> tower.setCall(method, 'b', at, 0));
                see(() -> tower.setCall(method, 's', at, 0));
            }
        }
    }
}
