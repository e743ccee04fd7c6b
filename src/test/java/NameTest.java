/** Promise 8: the names of groups, byte by byte. */
public final class NameTest {
    private static final Probe probe = new Probe("name");

    public static void main(String[] args) {
        names();
        everyLetter();
        wrongInputs();
        namesOfEarlierReads();
        probe.end();
    }

    private static String nameOf(PatternNodes x, int k) {
        StringBuilder out = new StringBuilder();
        for (int i = 0; i < 20 && x.name(k, i) != -1; i++) {
            out.append((char) x.name(k, i));
        }
        return out.toString();
    }

    private static void names() {
        PatternNodes x = Probe.of("(?P<first>a(b)(?:c)(?P<_2>d))(?P<abcdefghijkl>e)(?P<9>)", 0);
        probe.due("groups", x.count(1), 5);
        probe.due("1", nameOf(x, 1), "first");
        probe.due("2", nameOf(x, 2), "");
        probe.due("3", nameOf(x, 3), "_2");
        probe.due("4", nameOf(x, 4), "abcdefghijkl");
        probe.due("5", nameOf(x, 5), "9");
        PatternNodes y = Probe.of("()()()()()()()()(?P<last>)", 0);
        probe.due("9", nameOf(y, 9), "last");
        probe.due("8", nameOf(y, 8), "");
    }

    private static void everyLetter() {
        String letters = "abcdefghijklmnopqrstuvwxyzABCDEFGHIJKLMNOPQRSTUVWXYZ0123456789_";
        for (int c = 0; c < 128; c++) {
            PatternNodes x = Probe.of("(?P<a" + (char) c + "z>)", 0);
            boolean letter = letters.indexOf(c) >= 0;
            // a> ends the name, and z>) stands in the group.
            probe.due("letter " + c, x.fault(0), letter || c == '>' ? 0 : 10);
            probe.due("letter " + c, nameOf(x, 1), letter ? "a" + (char) c + "z" : c == '>' ? "a" : "");
        }
    }

    private static void wrongInputs() {
        PatternNodes x = Probe.of("(?P<ab>)(c)", 0);
        int[] wrong = {-1, 0, 2, 3, 9, 10, Integer.MIN_VALUE, Integer.MAX_VALUE};
        for (int k : wrong) {
            probe.due("name(" + k + ", 0)", x.name(k, 0), -1);
        }
        int[] wrongByte = {-1, 2, 12, Integer.MIN_VALUE, Integer.MAX_VALUE};
        for (int i : wrongByte) {
            probe.due("name(1, " + i + ")", x.name(1, i), -1);
        }
        probe.due("name(1, 1)", x.name(1, 1), 'b');
    }

    private static void namesOfEarlierReads() {
        PatternNodes x = Probe.of("(?P<first>)(?P<second>)", 0);
        Probe.putAll(x, Probe.utf8("(a)(?P<first>)"));
        probe.due("read", Probe.readOrRefuse(x, 0), 2);
        probe.due("1", nameOf(x, 1), "");
        probe.due("2", nameOf(x, 2), "first");
        Probe.putAll(x, Probe.utf8("(?P<n>"));
        probe.due("read", Probe.readOrRefuse(x, 0), -1);
        probe.due("none", nameOf(x, 1), "");
        Probe.putAll(x, Probe.utf8("(?P<n>)"));
        probe.due("read", Probe.readOrRefuse(x, 0), 1);
        probe.due("a name of a faulty pattern is free", nameOf(x, 1), "n");
        probe.due("no second", nameOf(x, 2), "");
    }
}
