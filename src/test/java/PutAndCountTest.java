/** Promises 1, 2, 3 and 5: a new object, put, what read() answers and leaves, count. */
public final class PutAndCountTest {
    private static final Probe probe = new Probe("put, read, count");

    public static void main(String[] args) {
        newObject();
        putTakesTheLowestBytesHighestFirst();
        putRefuses();
        putUpToFourHundred();
        readAnswersTheNumberedGroups();
        readTakesTheBytesInHand();
        readRefusesFlags();
        readAfterFault();
        flagsOfRead();
        countOfAnotherWhat();
        probe.end();
    }

    private static void newObject() {
        PatternNodes x = new PatternNodes();
        probe.due("new count(0)", x.count(0), 0);
        probe.due("new count(1)", x.count(1), 0);
        probe.due("new count(2)", x.count(2), 0);
        probe.due("new fault(0)", x.fault(0), 0);
        probe.due("new fault(1)", x.fault(1), -1);
        probe.due("new node(0, 0)", x.node(0, 0), -1);
        probe.due("new node(0, 5)", x.node(0, 5), -1);
        probe.due("new range(0, 0, 0)", x.range(0, 0, 0), -1);
        probe.due("new name(1, 0)", x.name(1, 0), -1);
        probe.due("new read", Probe.readOrRefuse(x, 0), 0);
        probe.due("empty pattern", Probe.tree(x), "row0()");
        probe.due("NONE", PatternNodes.NONE, -1);
    }

    private static void putTakesTheLowestBytesHighestFirst() {
        PatternNodes x = new PatternNodes();
        probe.due("put 2 of 3", x.put(0x616263L, 2), true);
        probe.due("bytes", x.count(2), 2);
        probe.due("put 0", x.put(0x616263L, 0), true);
        probe.due("bytes", x.count(2), 2);
        probe.due("put 1", x.put(0x7A7A7A7A7A7A7A64L, 1), true);
        probe.due("read", Probe.readOrRefuse(x, 0), 0);
        probe.due("order", Probe.tree(x), "row3(c98 c99 c100)");
        probe.due("put 8", x.put(0x6162636465666768L, 8), true);
        probe.due("read", Probe.readOrRefuse(x, 0), 0);
        probe.due("order of 8", Probe.tree(x), "row8(c97 c98 c99 c100 c101 c102 c103 c104)");
        probe.due("put a negative one", x.put(-1L, 8), true);
        probe.due("read", Probe.readOrRefuse(x, 0), -1);
        probe.due("odd", x.fault(0), 1);
    }

    private static void putRefuses() {
        PatternNodes x = new PatternNodes();
        int[] wrong = {-1, 9, 16, Integer.MIN_VALUE, Integer.MAX_VALUE};
        for (int n : wrong) {
            probe.due("put n = " + n, x.put(0x61L, n), false);
            probe.due("bytes", x.count(2), 0);
        }
    }

    private static void putUpToFourHundred() {
        PatternNodes x = new PatternNodes();
        for (int k = 0; k < 49; k++) {
            probe.due("put 8", x.put(0x6161616161616161L, 8), true);
        }
        probe.due("put 7", x.put(0x61616161616161L, 7), true);
        probe.due("bytes", x.count(2), 399);
        probe.due("put 2 beyond", x.put(0x6161L, 2), false);
        probe.due("put 8 beyond", x.put(0x6161L, 8), false);
        probe.due("put MAX_VALUE", x.put(0x6161L, Integer.MAX_VALUE), false);
        probe.due("bytes", x.count(2), 399);
        probe.due("the last one", x.put(0x62L, 1), true);
        probe.due("bytes", x.count(2), 400);
        probe.due("one beyond", x.put(0x62L, 1), false);
        probe.due("none more", x.put(0x62L, 0), true);
        probe.due("bytes", x.count(2), 400);
        probe.due("read", Probe.readOrRefuse(x, 0), 0);
        probe.due("nodes", x.count(0), 401);
        probe.due("last character", x.node(399, 1), 98);
        probe.due("bytes", x.count(2), 0);
        probe.due("put anew", x.put(0x62L, 1), true);
        probe.due("bytes", x.count(2), 1);
    }

    private static void readAnswersTheNumberedGroups() {
        String[] patterns = {"", "a", "(a)", "(?:a)", "(?i)a", "(?P<n>a)", "((a)(?:b)(?P<n>c))|(d)", "()()()()()()()()()"};
        int[] numbered = {0, 0, 1, 0, 0, 1, 4, 9};
        for (int k = 0; k < patterns.length; k++) {
            PatternNodes x = new PatternNodes();
            Probe.putAll(x, Probe.utf8(patterns[k]));
            probe.due("read " + patterns[k], Probe.readOrRefuse(x, 0), numbered[k]);
            probe.due("count(1) " + patterns[k], x.count(1), numbered[k]);
        }
    }

    private static void readTakesTheBytesInHand() {
        PatternNodes x = Probe.of("ab", 0);
        probe.due("bytes after read", x.count(2), 0);
        probe.due("nodes", x.count(0), 3);
        x.put(0x7CL, 1);
        probe.due("nodes stay until the next read", x.count(0), 3);
        probe.due("read", Probe.readOrRefuse(x, 0), 0);
        probe.due("nodes", x.count(0), 3);
        probe.due("tree", Probe.tree(x), "alt2(row0() row0())");
    }

    private static void readRefusesFlags() {
        PatternNodes x = Probe.of("(?P<n>a", 0);
        Probe.putAll(x, Probe.utf8("(?P<m>b)"));
        int[] wrong = {-1, 16, 17, Integer.MIN_VALUE, Integer.MAX_VALUE};
        for (int flags : wrong) {
            probe.due("read flags " + flags, Probe.readOrRefuse(x, flags), -1);
            probe.due("bytes stay", x.count(2), 8);
            probe.due("fault stays", x.fault(0), 2);
            probe.due("place stays", x.fault(1), 0);
        }
        probe.due("read", Probe.readOrRefuse(x, 15), 1);
        probe.due("refused again", Probe.readOrRefuse(x, 16), -1);
        probe.due("no fault", x.fault(0), 0);
        probe.due("nodes stay", x.count(0), 4);
        probe.due("groups stay", x.count(1), 1);
        probe.due("name stays", x.name(1, 0), 'm');
    }

    private static void readAfterFault() {
        PatternNodes x = Probe.of("(?P<n>a)(b)", 0);
        Probe.putAll(x, Probe.utf8("(?P<n>a)(b)["));
        probe.due("read", Probe.readOrRefuse(x, 0), -1);
        probe.due("nodes", x.count(0), 0);
        probe.due("groups", x.count(1), 0);
        probe.due("bytes", x.count(2), 0);
        probe.due("node", x.node(0, 0), -1);
        probe.due("name", x.name(1, 0), -1);
        probe.due("the empty pattern", Probe.readOrRefuse(x, 0), 0);
        probe.due("fault", x.fault(0), 0);
        probe.due("place", x.fault(1), -1);
        probe.due("nodes", x.count(0), 1);
    }

    private static void flagsOfRead() {
        String pattern = "a.^$b*";
        String dot = "[0-9 11-55295 57344-1114111]";
        String any = "[0-55295 57344-1114111]";
        for (int flags = 0; flags < 16; flags++) {
            boolean i = (flags & 1) != 0;
            boolean m = (flags & 2) != 0;
            String tree = "row5(" + (i ? "[65 97]" : "c97") + " " + ((flags & 4) != 0 ? any : dot)
                + (m ? " at2 at3 " : " at0 at1 ") + ((flags & 8) != 0 ? "lazy" : "greedy")
                + "0,-1(" + (i ? "[66 98]" : "c98") + "))";
            probe.due("flags " + flags, Probe.tree(Probe.of(pattern, flags)), tree);
        }
    }

    private static void countOfAnotherWhat() {
        PatternNodes x = Probe.of("a", 0);
        int[] wrong = {-1, 3, Integer.MIN_VALUE, Integer.MAX_VALUE};
        for (int what : wrong) {
            probe.due("count(" + what + ")", x.count(what), -1);
        }
    }
}
