import java.io.IOException;
import java.nio.file.Files;
import java.nio.file.Path;
import java.util.ArrayList;
import java.util.List;

/** The example of README.md, line by line: each call there answers what its comment says. */
public final class CrossDockReadme {
    private static final String START = "```java";
    private static final String END = "```";

    private final List<String> lines;
    private int next = 0;

    private CrossDockReadme(List<String> lines) {
        this.lines = lines;
    }

    public static void main(String[] args) throws IOException {
        // .ci/run starts each test in the project's own folder.
        new CrossDockReadme(example(Files.readAllLines(Path.of("README.md")))).run();
        Checks.end("the example answers what it says");
    }

    private static List<String> example(List<String> all) {
        List<String> found = new ArrayList<>();
        int at = all.indexOf(START) + 1;
        while (at < all.size() && !all.get(at).equals(END)) {
            found.add(all.get(at));
            at++;
        }
        return found;
    }

    private void run() {
        CrossDock dock = new CrossDock();
        told("CrossDock dock = new CrossDock();");
        due("dock.arrive(2, 1, 10, 5);", dock.arrive(2, 1, 10, 5));
        due("dock.arrive(2, 4, 20, 2);", dock.arrive(2, 4, 20, 2));
        due("dock.order(2, 2, 1, 0);", dock.order(2, 2, 1, 0));
        due("dock.order(2, 3, 5, 3);", dock.order(2, 3, 5, 3));
        dock.wants(1, 500, 1023);
        told("dock.wants(1, 500, 1023);");
        dock.promised(0, 1);
        told("dock.promised(0, 1);");
        due("dock.bound();", dock.bound());
        due("dock.match(20000);", dock.match(20000));
        due("dock.exact();", dock.exact());
        due("dock.steps();", dock.steps());
        due("dock.count(2);", dock.count(2));
        due("dock.pair(0, 0);", dock.pair(0, 0));
        due("dock.pair(0, 1);", dock.pair(0, 1));
        due("dock.pair(0, 2);", dock.pair(0, 2));
        due("dock.late(0, 501);", dock.late(0, 501));
        due("dock.saved();", dock.saved());
        due("dock.wanted(1, 3);", dock.wanted(1, 3));
        due("dock.match(0);", dock.match(0));
        Checks.due("README.md: lines of the example", next, lines.size());
    }

    /** The next line of the example is this call; what stands behind it is answered. */
    private String told(String call) {
        String line = next < lines.size() ? lines.get(next) : "";
        next++;
        if (!line.startsWith(call)) {
            Checks.due("README.md: the example's line " + next, line, call);
            return "";
        }
        return line.substring(call.length());
    }

    private void due(String call, Object answer) {
        String comment = told(call).trim();
        Checks.due("README.md: " + call, "// " + answer + ":", comment.substring(0, comment.indexOf(':') + 1));
    }
}
