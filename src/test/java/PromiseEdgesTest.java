import java.util.Arrays;

/** The edges that the document's head and its promises 1 to 8 name, sentence by sentence. */
public final class PromiseEdgesTest {
    private static final int LEAST = Integer.MIN_VALUE;
    private static final int MOST = Integer.MAX_VALUE;
    private static final int NONE = -1;
    private static final Probe probe = new Probe("edges of the promises");

    /** A pattern with each of the faults, in their order from 1 on. */
    private static final String[] FAULTY = {
        null, "a(b", "a)", "a[b", "a\\q", "a[b-a]", "a[[:x:]]", "a**", "a{2,1}", "a(?x)", "(?P<n>)(?P<n>)",
        "(?:".repeat(31), "()".repeat(10)};

    public static void main(String[] args) {
        callsOfAnObject();
        newObject();
        bytesOfPut();
        refusedPuts();
        fullHand();
        handOfRead();
        readBehindRead();
        flagsOfRead();
        refusedFlags();
        faultsOfRead();
        faults();
        counts();
        kindsAndValues();
        owners();
        largestSizes();
        rangeCounts();
        noSuchNode();
        rangesOfNodes();
        noSuchRange();
        namesOfGroups();
        probe.end();
    }

    private static byte[] faulty(int fault) {
        return fault == 1 ? Probe.bytes('a', 0xFF) : Probe.utf8(FAULTY[fault - 1]);
    }

    private static void callsOfAnObject() {
        probe.says("An object is used for at most 512 calls after it has been made");
        PatternNodes x = new PatternNodes();
        for (int call = 0; call < 510; call += 2) {
            probe.due("put as call " + (call + 1), x.put(0x28286129L, 4 - call % 4), true);
            probe.due("read as call " + (call + 2), Probe.readOrRefuse(x, call % 16), NONE);
        }
        probe.due("put as call 511", x.put(0x286129L, 3), true);
        probe.due("read as call 512", Probe.readOrRefuse(x, 0), 1);

        PatternNodes y = new PatternNodes();
        byte[] dearest = Probe.utf8("\\PL".repeat(133) + ".");
        for (int turn = 0; turn < 9; turn++) {
            probe.due("50 puts", Probe.putAll(y, dearest), true);
            probe.due("read", Probe.readOrRefuse(y, 15), 0);
        }
        for (int call = 9 * 51; call < 512; call++) {
            probe.due("range as call " + (call + 1), y.range(133, 1, 1), 1114111);
        }
    }

    private static void newObject() {
        probe.says("PatternNodes(): No bytes in hand");
        PatternNodes x = new PatternNodes();
        probe.due("count(2)", x.count(2), 0);
        probe.due("read(0)", Probe.readOrRefuse(x, 0), 0);
        probe.due("the empty pattern", Probe.tree(x), "row0()");

        probe.says("PatternNodes(): no nodes");
        PatternNodes y = new PatternNodes();
        probe.due("count(0)", y.count(0), 0);
        probe.due("count(1)", y.count(1), 0);
        for (int what = -1; what < 7; what++) {
            probe.due("node(0, " + what + ")", y.node(0, what), NONE);
        }
        probe.due("range(0, 0, 0)", y.range(0, 0, 0), NONE);
        probe.due("range(0, 0, 1)", y.range(0, 0, 1), NONE);
        probe.due("name(1, 0)", y.name(1, 0), NONE);
        probe.due("name(0, 0)", y.name(0, 0), NONE);
    }

    private static void bytesOfPut() {
        probe.says("The lowest n bytes of v, the highest of them first, come to those in hand: true");
        String letters = "abcdefgh";
        for (int n = 1; n <= 8; n++) {
            PatternNodes x = new PatternNodes();
            probe.due("put the lowest " + n, x.put(0x6162636465666768L, n), true);
            probe.due("count(2)", x.count(2), n);
            Probe.readOrRefuse(x, 0);
            for (int k = 0; k < n; k++) {
                probe.due("byte " + k + " of " + n, x.node(k, 1), letters.charAt(8 - n + k));
            }
            probe.due("nodes", x.count(0), n + 1);
        }
        PatternNodes y = new PatternNodes();
        probe.due("put b", y.put(0x6162L, 1), true);
        probe.due("put none", y.put(0x6162L, 0), true);
        probe.due("count(2)", y.count(2), 1);
        probe.due("put a", y.put(-0x9FL, 1), true);
        probe.due("count(2)", y.count(2), 2);
        probe.due("read", Probe.readOrRefuse(y, 0), 0);
        probe.due("b is ahead of a", Probe.tree(y), "row2(c98 c97)");

        probe.says("The lowest n bytes of v (v below 0)");
        PatternNodes z = new PatternNodes();
        probe.due("put the least v", z.put(Long.MIN_VALUE, 7), true);
        probe.due("read", Probe.readOrRefuse(z, 0), 0);
        probe.due("seven bytes 0", Probe.tree(z), "row7(c0 c0 c0 c0 c0 c0 c0)");
        probe.due("put all of it", z.put(Long.MIN_VALUE, 8), true);
        probe.due("read", Probe.readOrRefuse(z, 0), NONE);
        probe.due("byte 128 is the first", z.fault(1), 0);
        probe.due("put two bytes of a character", z.put(-15447L, 2), true);
        probe.due("read", Probe.readOrRefuse(z, 0), 0);
        probe.due("bytes C3 A9", Probe.tree(z), "row1(c233)");
    }

    private static void refusedPuts() {
        probe.says("false, and none come, if n is not 0 .. 8");
        int[] wrong = {-1, 9, -8, 10, 16, 64, 256, -255, 0x10001, LEAST, LEAST + 1, MOST};
        PatternNodes x = new PatternNodes();
        for (int n : wrong) {
            probe.due("put of " + n + " on an empty hand", x.put(0x7878L, n), false);
            probe.due("count(2)", x.count(2), 0);
        }
        x.put(0x6162L, 2);
        for (int n : wrong) {
            probe.due("put of " + n, x.put(0x7878L, n), false);
            probe.due("count(2)", x.count(2), 2);
        }
        x.put(0x63L, 1);
        Probe.readOrRefuse(x, 0);
        probe.due("nothing of the refused ones", Probe.tree(x), "row3(c97 c98 c99)");
    }

    private static void fullHand() {
        probe.says("false, and none come, if there would be more than 400");
        PatternNodes x = new PatternNodes();
        Probe.putAll(x, Probe.utf8("a".repeat(397)));
        for (int n = 4; n <= 8; n++) {
            probe.due("397 and " + n, x.put(0x7878787878787878L, n), false);
            probe.due("count(2)", x.count(2), 397);
        }
        probe.due("397 and 3", x.put(0x626364L, 3), true);
        probe.due("count(2)", x.count(2), 400);
        for (int n = 1; n <= 9; n++) {
            probe.due("400 and " + n, x.put(0x7878787878787878L, n), false);
        }
        probe.due("400 and -1", x.put(0x78L, -1), false);
        probe.due("400 and none", x.put(0x78L, 0), true);
        probe.due("count(2)", x.count(2), 400);
        probe.due("read", Probe.readOrRefuse(x, 0), 0);
        probe.due("nodes", x.count(0), 401);
        int[] tail = {'a', 'b', 'c', 'd'};
        for (int k = 0; k < 4; k++) {
            probe.due("byte " + (396 + k), x.node(396 + k, 1), tail[k]);
        }
        probe.due("400 once more", Probe.putAll(x, Probe.utf8("e".repeat(400))), true);
        probe.due("and one", x.put(0x78L, 1), false);
    }

    private static void handOfRead() {
        probe.says("The bytes in hand (there are none then) are read as a pattern");
        PatternNodes x = Probe.of("(ab)", 0);
        probe.due("count(2) behind a read", x.count(2), 0);
        x.put(0x62L, 1);
        probe.due("nodes stay while bytes come", Probe.tree(x), "row1(group1(row2(c97 c98)))");
        probe.due("read", Probe.readOrRefuse(x, 0), 0);
        probe.due("only what came since", Probe.tree(x), "row1(c98)");
        probe.due("read of none", Probe.readOrRefuse(x, 0), 0);
        probe.due("the empty pattern", Probe.tree(x), "row0()");
        for (int fault = 1; fault <= 13; fault++) {
            PatternNodes y = Probe.of(faulty(fault), 0);
            probe.due("count(2) behind fault " + fault, y.count(2), 0);
            y.put(0x62L, 1);
            probe.due("read behind fault " + fault, Probe.readOrRefuse(y, 0), 0);
            probe.due("only what came since", Probe.tree(y), "row1(c98)");
        }
    }

    private static void readBehindRead() {
        probe.says("The bytes in hand (and nothing of an earlier read) are read as a pattern");
        String[] earlier = {"", "a", "a*", "a|b", "|", "(?i)", "(?P<n>a|b)", "a)", "a*)", "(", "(ab", "(a|b", "((a|b)c|d",
            "a(b|c|", "(?i:a", "(?imsU)[", "a[b", "a\\q", "(?P<n>)(?P<n>)", "(?:(?:(?:(?:a", "()()()()()()()()()()"};
        String[] later = {"", "b", "b|c", "(b)", "(b|c)d", "((b)|c)", "(?:(?:(?:(?:b|c))))", "[b]", "^.b?", "(?P<n>b)",
            "()()()()()()()()()"};
        for (String first : earlier) {
            for (String second : later) {
                PatternNodes x = Probe.of(first, 15);
                Probe.putAll(x, Probe.utf8(second));
                int groups = Probe.readOrRefuse(x, 0);
                PatternNodes y = Probe.of(second, 0);
                probe.due(first + " then " + second, groups, y.count(1));
                probe.due(first + " then " + second, stateOf(x), stateOf(y));
            }
            PatternNodes z = Probe.of(first, 0);
            z.put('*', 1);
            probe.due(first + " then *", Probe.readOrRefuse(z, 0), NONE);
            faultsAre(first + " then *", z, 8, 0);
            z.put(')', 1);
            probe.due(first + " then )", Probe.readOrRefuse(z, 0), NONE);
            faultsAre(first + " then )", z, 3, 0);
        }
        String[] full = {"a".repeat(399) + ")", "|".repeat(399) + ")", "(" + "a".repeat(399), "(" + "|".repeat(399),
            "[" + "a".repeat(399), "k".repeat(399) + ")", "\\PL".repeat(133) + ")", "(?:".repeat(30) + "a".repeat(310)};
        for (String text : full) {
            PatternNodes x = new PatternNodes();
            for (int turn = 0; turn < 8; turn++) {
                probe.due("put", Probe.putAll(x, Probe.utf8(text)), true);
                probe.due("a fault of 400 bytes", Probe.readOrRefuse(x, 1), NONE);
            }
            Probe.putAll(x, Probe.utf8("(|)".repeat(9) + "|".repeat(373)));
            probe.due("read behind them", Probe.readOrRefuse(x, 0), 9);
            probe.due("nodes", x.count(0), 411);
            probe.due("rows", x.node(410, 1), 374);
        }
    }

    private static void flagsOfRead() {
        probe.says("with flags on: 1 i, 2 m, 4 s, 8 U");
        String[] trees = new String[16];
        for (int flags = 0; flags < 16; flags++) {
            trees[flags] = "row3(" + (flags % 4 < 2 ? "at0 " : "at2 ")
                + (flags % 8 < 4 ? "[0-9 11-55295 57344-1114111] " : "[0-55295 57344-1114111] ")
                + (flags < 8 ? "greedy" : "lazy") + "0,1(" + (flags % 2 == 0 ? "c98" : "[66 98]") + "))";
            probe.due("flags " + flags, Probe.tree(Probe.of("^.b?", flags)), trees[flags]);
        }
        PatternNodes x = Probe.of("^.b?", 15);
        Probe.putAll(x, Probe.utf8("^.b?"));
        Probe.readOrRefuse(x, 0);
        probe.due("flags of an earlier read are off", Probe.tree(x), trees[0]);
        Probe.putAll(x, Probe.utf8("((?imsU)"));
        Probe.readOrRefuse(x, 0);
        Probe.putAll(x, Probe.utf8("^.b?"));
        Probe.readOrRefuse(x, 0);
        probe.due("flags of an earlier pattern are off", Probe.tree(x), trees[0]);

        probe.says("how many numbered groups it has");
        for (int many = 0; many <= 9; many++) {
            PatternNodes y = new PatternNodes();
            Probe.putAll(y, Probe.utf8("(?:a)" + "(a)".repeat(many) + "(?i)"));
            probe.due(many + " groups", Probe.readOrRefuse(y, 0), many);
        }
    }

    private static String stateOf(PatternNodes x) {
        return x.count(0) + " " + x.count(1) + " " + x.count(2) + " " + x.fault(0) + " " + x.fault(1) + " "
            + Probe.tree(x) + " " + x.name(1, 0) + " " + x.name(1, 1);
    }

    private static void refusedFlags() {
        int[] wrong = {-1, 16, 17, 31, 32, 256, -16, 0x10000, LEAST, LEAST + 1, MOST};
        probe.says("IllegalArgumentException: flags are not 0 .. 15");
        for (int flags : wrong) {
            PatternNodes x = new PatternNodes();
            String thrown = "nothing";
            try {
                x.read(flags);
            } catch (RuntimeException e) {
                thrown = e.getClass().getName();
            }
            probe.due("read(" + flags + ")", thrown, "java.lang.IllegalArgumentException");
        }
        for (int flags = 0; flags < 16; flags++) {
            probe.due("read(" + flags + ")", Probe.readOrRefuse(new PatternNodes(), flags), 0);
        }

        probe.says("flags are not 0 .. 15 (all stays as it was)");
        String[] before = {"", "(?P<ab>c[de-f]|g+)", "(?P<ab>c)(", "a".repeat(40)};
        String[] inHand = {"", "(b", "a\\q", "a".repeat(400)};
        for (String pattern : before) {
            for (String bytes : inHand) {
                PatternNodes x = Probe.of(pattern, 0);
                Probe.putAll(x, Probe.utf8(bytes));
                String state = stateOf(x);
                Probe.readOrRefuse(x, -1);
                Probe.readOrRefuse(x, 16);
                probe.due("refused behind " + pattern, stateOf(x), state);
            }
        }
        PatternNodes fresh = new PatternNodes();
        Probe.readOrRefuse(fresh, 16);
        probe.due("refused on a new object", stateOf(fresh), stateOf(new PatternNodes()));
        fresh.put(0x2862L, 2);
        Probe.readOrRefuse(fresh, LEAST);
        fresh.put(0x29L, 1);
        probe.due("the bytes in hand stay too", Probe.readOrRefuse(fresh, 0), 1);
        probe.due("and are read by the next one", Probe.tree(fresh), "row1(group1(row1(c98)))");
    }

    private static void faultsOfRead() {
        probe.says("IllegalArgumentException: a FAULT: there are no nodes then");
        for (int fault = 1; fault <= 13; fault++) {
            PatternNodes x = Probe.of("(?P<ab>[ce])(d)", 0);
            Probe.putAll(x, faulty(fault));
            String thrown = "nothing";
            try {
                x.read(0);
            } catch (RuntimeException e) {
                thrown = e.getClass().getName();
            }
            probe.due("read with fault " + fault, thrown, "java.lang.IllegalArgumentException");
            probe.due("fault(0)", x.fault(0), fault);
            probe.due("nodes, numbered groups", x.count(0) + x.count(1), 0);
            for (int i = 0; i < 9; i++) {
                probe.due("node(" + i + ", 0)", x.node(i, 0), NONE);
            }
            probe.due("range(0, 0, 0)", x.range(0, 0, 0), NONE);
            probe.due("name(1, 0)", x.name(1, 0), NONE);
        }
    }

    private static void faultsAre(String when, PatternNodes x, int fault, int place) {
        probe.due(when + ": fault(0)", x.fault(0), fault);
        probe.due(when + ": fault(1)", x.fault(1), place);
    }

    private static void faults() {
        probe.says("Of the latest read() that was not refused for its flags");
        PatternNodes x = Probe.of("ab)", 0);
        faultsAre("a fault", x, 3, 2);
        Probe.readOrRefuse(x, 16);
        faultsAre("refused", x, 3, 2);
        Probe.putAll(x, Probe.utf8("(c"));
        faultsAre("bytes came", x, 3, 2);
        Probe.readOrRefuse(x, -1);
        faultsAre("refused again", x, 3, 2);
        Probe.readOrRefuse(x, 0);
        faultsAre("another fault", x, 2, 0);
        Probe.readOrRefuse(x, 0);
        faultsAre("no fault", x, 0, NONE);
        Probe.readOrRefuse(x, MOST);
        faultsAre("no fault, and refused", x, 0, NONE);

        probe.says("the FAULT, 0 without (what = 0), its place (1; NONE without)");
        faultsAre("before any read", new PatternNodes(), 0, NONE);
        faultsAre("of the empty pattern", Probe.of("", 0), 0, NONE);
        faultsAre("at the first place", Probe.of(")", 0), 3, 0);
        faultsAre("at the last place", Probe.of("a".repeat(399) + ")", 0), 3, 399);
        faultsAre("of a full pattern", Probe.of("a".repeat(400), 0), 0, NONE);
        faultsAre("a place is a byte", Probe.of("\u00E9\u20AC)", 0), 3, 5);

        probe.says("fault: NONE for another what");
        int[] wrong = {-1, 2, 3, 13, LEAST, MOST};
        for (int what : wrong) {
            probe.due("new: fault(" + what + ")", new PatternNodes().fault(what), NONE);
            probe.due("a fault: fault(" + what + ")", Probe.of(")", 0).fault(what), NONE);
            probe.due("no fault: fault(" + what + ")", Probe.of("a", 0).fault(what), NONE);
        }
    }

    private static void counts() {
        probe.says("How many nodes there are (what = 0)");
        probe.due("of none", new PatternNodes().count(0), 0);
        probe.due("of the empty pattern", Probe.of("", 0).count(0), 1);
        probe.due("of one character", Probe.of("a", 0).count(0), 2);
        probe.due("of a fault", Probe.of("a(", 0).count(0), 0);
        probe.due("of the most", Probe.of("(|)".repeat(9) + "|".repeat(373), 0).count(0), 411);

        probe.says("numbered groups (1)");
        probe.due("of none", new PatternNodes().count(1), 0);
        probe.due("of those without a number", Probe.of("(?:a)(?i:b)(?m)", 0).count(1), 0);
        probe.due("of nine", Probe.of("((((((((()))))))))", 0).count(1), 9);
        probe.due("of ten", Probe.of("(".repeat(10), 0).count(1), 0);

        probe.says("bytes in hand (2)");
        PatternNodes x = new PatternNodes();
        for (int n = 0; n <= 8; n++) {
            int before = x.count(2);
            x.put(-1L, n);
            probe.due("put of " + n, x.count(2), before + n);
        }
        Probe.putAll(x, new byte[364]);
        probe.due("full", x.count(2), 400);

        probe.says("count: NONE for another what");
        int[] wrong = {-1, 3, 4, LEAST, MOST};
        for (int what : wrong) {
            probe.due("new: count(" + what + ")", new PatternNodes().count(what), NONE);
            probe.due("count(" + what + ")", Probe.of("(a)", 0).count(what), NONE);
            probe.due("a fault: count(" + what + ")", Probe.of("(a", 0).count(what), NONE);
        }
    }

    private static void answers(String pattern, int what, int... due) {
        PatternNodes x = Probe.of(pattern, 0);
        int[] got = new int[x.count(0)];
        for (int i = 0; i < got.length; i++) {
            got[i] = x.node(i, what);
        }
        probe.due(pattern + " what " + what, Arrays.toString(got), Arrays.toString(due));
    }

    private static void kindsAndValues() {
        String each = "a[b]\\C^|()*(?:)??";
        probe.says("Of node i: KIND (what = 0)");
        answers(each, 0, 0, 1, 2, 3, 4, 4, 6, 7, 4, 6, 8, 4, 5);
        probe.says("VALUE (1; NONE for kinds 1, 2)");
        answers(each, 1, 97, NONE, NONE, 0, 4, 0, 1, 0, 0, 0, 0, 2, 2);
        answers(".\\d\\pL[^a]\\C", 1, NONE, NONE, NONE, NONE, NONE, 5);
        probe.says("MOST (2; NONE for others than repeats)");
        answers(each, 2, NONE, NONE, NONE, NONE, NONE, NONE, NONE, NONE, NONE, NONE, 1, NONE, NONE);
        answers("a{0}b{0,100}?c{100}", 2, NONE, 0, NONE, 100, NONE, 100, NONE);
        answers("a*b+?c{0,}d{100,}?", 2, NONE, NONE, NONE, NONE, NONE, NONE, NONE, NONE, NONE);
    }

    private static void owners() {
        probe.says("the node that it is of (3; NONE for the last one)");
        answers("", 3, NONE);
        answers("a", 3, 1, NONE);
        answers("a[b]\\C^|()*(?:)??", 3, 4, 4, 4, 4, 12, 6, 7, 11, 9, 10, 11, 12, NONE);
        answers("((a|b)c)", 3, 1, 4, 3, 4, 5, 7, 7, 8, 9, NONE);
    }

    private static void sizeIs(String pattern, int size) {
        PatternNodes x = Probe.of(pattern, 0);
        probe.due("size of " + pattern, x.node(x.count(0) - 1, 4), size);
    }

    private static void largestSizes() {
        probe.says("SIZE, at most 1,000,000 (4)");
        String nearly = "(?:(?:a{100}){100}){99}(?:a{100}){99}";
        String million = "(?:(?:a{100}){100}){100}";
        sizeIs(nearly + "a{99}", 999999);
        sizeIs(nearly + "a{100}", 1000000);
        sizeIs(nearly + "a{100}a", 1000000);
        sizeIs(million, 1000000);
        sizeIs("(?:" + million + ")*", 1000000);
        sizeIs("(?:" + million + ")?", 1000000);
        sizeIs("(?:" + million + ")+", 1000000);
        sizeIs("(" + million + ")", 1000000);
        sizeIs(million + "|", 1000000);
        sizeIs("(?:" + million + "){0}", 0);
        sizeIs("(?:" + million + "){0}b", 1);
        // Past 2^31, 2^32, 2^63 and 2^64, where a count would turn round.
        for (int deep = 4; deep <= 30; deep++) {
            sizeIs("(?:".repeat(deep) + "a" + "){100}".repeat(deep), 1000000);
            sizeIs("(?:".repeat(deep) + "a" + "){64}".repeat(deep), 1000000);
            sizeIs("(?:".repeat(deep) + "a" + "){100,}".repeat(deep), 1000000);
        }
        sizeIs("(?:(?:[a]{100}){100}){17}", 1000000);
        sizeIs("(?:(?:[a]{100}){100}){16}(?:[a]{100}){66}[a]{66}[ac]", 960000 + 39600 + 396 + 10 - 6);
    }

    private static void rangeCounts() {
        probe.says("how many ranges (5; 0 for others than classes)");
        answers("a[bd]\\C^|()*(?:)??", 5, 0, 2, 0, 0, 0, 0, 0, 0, 0, 0, 0, 0, 0);
        answers("[^\\d\\D].\\PL[a]", 5, 0, 3, 11, 1, 0);
    }

    private static void noSuchNode() {
        probe.says("node: NONE if there is none such");
        int[] wrong = {-1, -2, 3, 4, 511, 512, LEAST, LEAST + 1, MOST};
        for (int what = 0; what < 6; what++) {
            for (int i : wrong) {
                probe.due("node(" + i + ", " + what + ")", Probe.of("ab", 0).node(i, what), NONE);
            }
        }
        PatternNodes x = Probe.of("abcdef", 0);
        x.put(0x61L, 1);
        Probe.readOrRefuse(x, 0);
        for (int i = 2; i < 7; i++) {
            probe.due("a node of an earlier read: node(" + i + ", 0)", x.node(i, 0), NONE);
        }

        probe.says("node: NONE for another what");
        int[] wrongWhat = {-1, 6, 7, LEAST, MOST};
        PatternNodes y = Probe.of("a[b]\\C^|()*(?:)??", 0);
        for (int what : wrongWhat) {
            for (int i = -1; i <= 13; i++) {
                probe.due("node(" + i + ", " + what + ")", y.node(i, what), NONE);
            }
        }
    }

    private static void rangesOfNodes() {
        probe.says("Where range k of node i begins (which = 0), ends (1)");
        PatternNodes x = Probe.of("[ac-f]b[^\\x{0}-\\x{10FFFE}]", 0);
        probe.due("range(0, 0, 0)", x.range(0, 0, 0), 97);
        probe.due("range(0, 0, 1)", x.range(0, 0, 1), 97);
        probe.due("range(0, 1, 0)", x.range(0, 1, 0), 99);
        probe.due("range(0, 1, 1)", x.range(0, 1, 1), 102);
        probe.due("range(2, 0, 0)", x.range(2, 0, 0), 1114111);
        probe.due("range(2, 0, 1)", x.range(2, 0, 1), 1114111);
        PatternNodes y = Probe.of(".", 4);
        probe.due("the least character", y.range(0, 0, 0), 0);
        probe.due("the last one", y.range(0, 1, 1), 1114111);
    }

    private static void noSuchRange() {
        probe.says("range: NONE if there is none such");
        PatternNodes x = Probe.of("[ac]\\C[e][^\\d\\D]^|()*(?:)??", 0);
        int[] wrong = {-1, 2, 3, 1600, LEAST, LEAST + 1, MOST};
        for (int which = 0; which < 2; which++) {
            for (int k : wrong) {
                probe.due("range(0, " + k + ", " + which + ")", x.range(0, k, which), NONE);
                probe.due("range(2, " + k + ", " + which + ")", x.range(2, k, which), NONE);
            }
            probe.due("range(2, 1, " + which + ")", x.range(2, 1, which), NONE);
            for (int i = 3; i <= x.count(0); i++) {
                probe.due("no class: range(" + i + ", 0, " + which + ")", x.range(i, 0, which), NONE);
            }
            int[] wrongNode = {-1, 1, 511, 512, LEAST, MOST};
            for (int i : wrongNode) {
                probe.due("range(" + i + ", 0, " + which + ")", x.range(i, 0, which), NONE);
                probe.due("range(" + i + ", -1, " + which + ")", x.range(i, -1, which), NONE);
            }
        }
        PatternNodes y = Probe.of("a[bdf]", 0);
        Probe.putAll(y, Probe.utf8("a[b]"));
        Probe.readOrRefuse(y, 0);
        probe.due("a range of an earlier read", y.range(1, 1, 0), NONE);
        Probe.putAll(y, Probe.utf8("ab"));
        Probe.readOrRefuse(y, 0);
        probe.due("a range of an earlier node", y.range(1, 0, 0), NONE);
        probe.due("how many", y.node(1, 5), 0);

        probe.says("range: NONE for another which");
        int[] wrongWhich = {-1, 2, 3, LEAST, MOST};
        for (int which : wrongWhich) {
            probe.due("range(0, 0, " + which + ")", x.range(0, 0, which), NONE);
            probe.due("range(0, 1, " + which + ")", x.range(0, 1, which), NONE);
            probe.due("range(9, 0, " + which + ")", x.range(9, 0, which), NONE);
        }
    }

    private static void namesOfGroups() {
        probe.says("Byte i of the name of group k");
        PatternNodes x = Probe.of("(?P<_>(?:a)(b)(?P<aZ09zA_bcdef>c))", 0);
        probe.due("name(1, 0)", x.name(1, 0), '_');
        String longest = "aZ09zA_bcdef";
        for (int i = 0; i < 12; i++) {
            probe.due("name(3, " + i + ")", x.name(3, i), longest.charAt(i));
        }
        PatternNodes nine = Probe.of("()".repeat(8) + "(?P<ninth>)", 0);
        probe.due("name(9, 4)", nine.name(9, 4), 'h');
        StringBuilder longestOfAll = new StringBuilder();
        for (int k = 1; k <= 9; k++) {
            longestOfAll.append("(?P<abcdefghijk").append(k).append(">)");
        }
        PatternNodes all = Probe.of(longestOfAll.toString(), 0);
        for (int k = 1; k <= 9; k++) {
            probe.due("name(" + k + ", 0)", all.name(k, 0), 'a');
            probe.due("name(" + k + ", 11)", all.name(k, 11), '0' + k);
            probe.due("name(" + k + ", 12)", all.name(k, 12), NONE);
        }

        probe.says("name: NONE if there is none");
        int[] wrongByte = {-1, 12, 13, 24, LEAST, LEAST + 1, MOST};
        for (int i : wrongByte) {
            probe.due("name(3, " + i + ")", x.name(3, i), NONE);
            probe.due("name(1, " + i + ")", x.name(1, i), NONE);
        }
        probe.due("name(1, 1)", x.name(1, 1), NONE);
        probe.due("a group without a name", x.name(2, 0), NONE);
        int[] wrongGroup = {0, -1, 4, 9, 10, 11, LEAST, LEAST + 1, MOST};
        for (int k : wrongGroup) {
            probe.due("name(" + k + ", 0)", x.name(k, 0), NONE);
        }
        probe.due("name(10, 0)", nine.name(10, 0), NONE);
        probe.due("name(9, 5)", nine.name(9, 5), NONE);
        Probe.putAll(x, Probe.utf8("(a)"));
        Probe.readOrRefuse(x, 0);
        probe.due("a name of an earlier read", x.name(1, 0), NONE);
        probe.due("a group of an earlier read", x.name(3, 0), NONE);
    }
}
