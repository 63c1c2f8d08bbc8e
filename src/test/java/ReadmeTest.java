import java.io.IOException;
import java.nio.file.Files;
import java.nio.file.Path;
import java.util.List;

/** The calls of the README's example answer what it says behind them. */
public final class ReadmeTest extends Checks {
    private static List<String> lines;
    private static int next;

    public static void main(String[] args) throws IOException {
        List<String> readme = Files.readAllLines(Path.of("README.md"));
        int start = readme.indexOf("```java");
        lines = readme.subList(start + 2, readme.size());

        DecisionLayers x = new DecisionLayers();
        row("x.test(3, 0, 18, 0);", x.test(3, 0, 18, 0));
        row("x.state(4, 1 + 8, 42, 42, -1);", x.state(4, 1 + 8, 42, 42, -1));
        row("x.state(4, 0, 0x64616572L, 42, -1);", x.state(4, 0, 0x64616572L, 42, -1));
        row("x.offer(0, 17);", x.offer(0, 17));
        row("x.decide(1, 2, 0x64616572L, 0x31L, 1);", x.decide(1, 2, 0x64616572L, 0x31L, 1));
        row("x.layer();", x.layer());
        row("x.applied(4);", x.applied(4));
        row("x.forget(0);", x.forget(0));
        row("x.decide(1, 2, 0x64616572L, 0x31L, 1);", x.decide(1, 2, 0x64616572L, 0x31L, 1));
        row("x.applied(4);", x.applied(4));
        says("the README's example has no more rows");
        due("the end of the example", lines.get(next).equals("```"), true);
        end();
    }

    /** The next row of the example is this call, with this answer behind it. */
    private static void row(String call, int answer) {
        String line = lines.get(next);
        next++;
        says("the README's row: " + line);
        due("is it " + call, line.startsWith(call), true);
        int told = line.indexOf("// ") + 3;
        due(call, answer, Integer.parseInt(line.substring(told).split(":")[0]));
    }
}
