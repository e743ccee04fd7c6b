import java.io.IOException;
import java.lang.reflect.Method;
import java.lang.reflect.Modifier;
import java.nio.file.Files;
import java.nio.file.Path;
import java.util.ArrayList;
import java.util.List;
import java.util.stream.Stream;

/** README.md: its example is true, and it names every call and every test. Run from the project's root. */
public final class ReadmeTest {
    private static final Probe probe = new Probe("README");

    public static void main(String[] args) throws IOException {
        String page = Files.readString(Path.of("README.md"));
        example(page);
        nodesOfTheExample(page);
        callsAndTests(page);
        probe.end();
    }

    private static PatternNodes exampleRead() {
        PatternNodes x = new PatternNodes();
        probe.due("put", x.put(0x28613F5B6B5D29L, 7), true);
        probe.due("put", x.put(0x2AL, 1), true);
        probe.due("read(1)", Probe.readOrRefuse(x, 1), 1);
        return x;
    }

    private static void example(String page) {
        probe.says("x.put(..); int groups = x.read(1); ..");
        PatternNodes x = exampleRead();
        int last = x.count(0) - 1;
        probe.due("last", last, 6);
        probe.due("node(last, 0)", x.node(last, 0), 4);
        probe.due("node(last, 4)", x.node(last, 4), 28);
        probe.due("range(2, 2, 0)", x.range(2, 2, 0), 8490);

        probe.says("the example stands there as it is tried here");
        names(page, "x.put(0x28613F5B6B5D29L, 7);");
        names(page, "x.put(0x2AL, 1);");
        names(page, "x.count(0) - 1;    // 6;");
        names(page, "x.node(last, 4);              // 28,");
        names(page, "x.range(2, 2, 0);             // 8490,");
    }

    private static void nodesOfTheExample(String page) {
        probe.says("The nodes of this pattern");
        List<String[]> lines = nodeLines(page);
        PatternNodes x = exampleRead();
        probe.due("count(0)", x.count(0), lines.size());
        for (int i = 0; i < lines.size(); i++) {
            String[] cells = lines.get(i);
            String node = "node " + i + " ";
            probe.due(node + "number", cells[0], "" + i);
            probe.due(node + "what it is", cells[1].startsWith(wordsOf(x, i)) ? "" : cells[1], "");
            probe.due(node + "of node", cells[2], x.node(i, 3) == PatternNodes.NONE ? "none" : "" + x.node(i, 3));
            probe.due(node + "size", cells[3], "" + x.node(i, 4));
            probe.due(node + "ranges", cells[4], rangesOf(x, i));
        }
    }

    /** The cells of the table's lines: those that begin with a number. */
    private static List<String[]> nodeLines(String page) {
        List<String[]> lines = new ArrayList<>();
        for (String line : page.split("\n")) {
            if (line.matches("\\| \\d+ \\|.*\\|")) {
                String[] cells = line.substring(1, line.length() - 1).split("\\|", -1);
                for (int k = 0; k < cells.length; k++) {
                    cells[k] = cells[k].trim();
                }
                lines.add(cells);
            }
        }
        return lines;
    }

    private static String wordsOf(PatternNodes x, int i) {
        int value = x.node(i, 1);
        int most = x.node(i, 2);
        switch (x.node(i, 0)) {
            case 1: return "class";
            case 4: return "row of " + value + " part";
            case 6: return "group " + value;
            case 7: return "greedy repeat, " + value + " to " + (most == PatternNodes.NONE ? "any" : "" + most);
            default: return "kind " + x.node(i, 0);
        }
    }

    private static String rangesOf(PatternNodes x, int i) {
        StringBuilder out = new StringBuilder();
        for (int k = 0; k < x.node(i, 5); k++) {
            out.append(k > 0 ? " " : "").append(x.range(i, k, 0)).append('-').append(x.range(i, k, 1));
        }
        return out.toString();
    }

    private static void callsAndTests(String page) throws IOException {
        probe.says("every call of the face is named");
        for (Method method : PatternNodes.class.getDeclaredMethods()) {
            if (Modifier.isPublic(method.getModifiers())) {
                names(page, "| `" + method.getName() + "(");
            }
        }
        names(page, "`PatternNodes.NONE`");

        probe.says("every test is named, and what runs them");
        names(page, "`.ci/run`");
        try (Stream<Path> files = Files.list(Path.of("src/test/java"))) {
            for (Path file : (Iterable<Path>) files::iterator) {
                names(page, "`" + file.getFileName().toString().replace(".java", "") + "`");
            }
        }
    }

    private static void names(String page, String words) {
        probe.due("README names " + words, page.contains(words), true);
    }
}
