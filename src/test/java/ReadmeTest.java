import java.io.IOException;
import java.nio.file.Files;
import java.nio.file.Path;
import java.util.Iterator;
import java.util.List;

/** The example of README.md: its calls, in order, answer what stands behind them. */
public final class ReadmeTest {
    private static final String OPENING = "```java";
    private static final String CLOSING = "```";
    private static final String MAKING = "StrategyDesk desk = new StrategyDesk(3, 0b010);";

    private final Iterator<String> lines;

    private ReadmeTest(List<String> readme) {
        int start = readme.indexOf(OPENING) + 1;
        List<String> rest = readme.subList(start, readme.size());
        lines = rest.subList(0, rest.indexOf(CLOSING)).iterator();
    }

    public static void main(String[] args) throws IOException {
        new ReadmeTest(Files.readAllLines(Path.of("README.md"))).run();
        Check.end();
    }

    private void run() {
        Check.same("the example begins with " + MAKING, nextLine().startsWith(MAKING), true);
        StrategyDesk desk = new StrategyDesk(3, 0b010);
        line("desk.variables();", desk.variables());
        line("desk.adams();", desk.adams());
        line("desk.add(0b010, 0b100);", desk.add(0b010, 0b100));
        line("desk.add(0b100, 0b010);", desk.add(0b100, 0b010));
        line("desk.add(0b001, 0);", desk.add(0b001, 0));
        line("desk.clauses();", desk.clauses());
        line("desk.models();", desk.models());
        line("desk.wins();", desk.wins());
        line("desk.best();", desk.best());
        line("desk.play(1);", desk.play(1));
        line("desk.play(1);", desk.play(1));
        line("desk.best();", desk.best());
        line("desk.played();", desk.played());
        line("desk.undo();", desk.undo());
        line("desk.reply(2, 0b010);", desk.reply(2, 0b010));
        line("desk.reply(2, 0);", desk.reply(2, 0));
        line("desk.answer(1, 0b001);", desk.answer(1, 0b001));
        line("desk.idle(2);", desk.idle(2));
        line("desk.harmless(0b010, 0);", desk.harmless(0b010, 0));
        line("desk.claim(0, 1);", desk.claim(0, 1));
        line("desk.claim(2, 0b01);", desk.claim(2, 0b01));
        line("desk.gap();", desk.gap());
        line("desk.learn();", desk.learn());
        line("desk.claimed(2, 1);", desk.claimed(2, 1));
        line("desk.drop(2);", desk.drop(2));
        Check.same("the example goes on", lines.hasNext(), false);
    }

    private String nextLine() {
        return lines.hasNext() ? lines.next() : "(the end of the example)";
    }

    /** The answer of a line is what stands behind its "//", up to a colon if there is one. */
    private void line(String call, Object got) {
        String[] parts = nextLine().split("//", 2);
        Check.same("the example's next call", parts[0].strip(), call);
        String due = parts.length < 2 ? "" : parts[1].split(":", 2)[0].strip();
        Check.same(call, String.valueOf(got), due);
    }
}
