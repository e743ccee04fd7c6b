/** The edges that the terms A PATTERN, REPEATS, SIZE and NODES name, sentence by sentence. */
public final class TreeEdgesTest {
    private static final Probe probe = new Probe("edges of trees");

    public static void main(String[] args) {
        rows();
        repeatedParts();
        repeats();
        digits();
        laziness();
        leafSizes();
        groupSizes();
        rowSizes();
        repeatSizes();
        order();
        kinds();
        values();
        rowsOfNone();
        oneAlone();
        theLastNode();
        fullPatterns();
        probe.end();
    }

    private static void rows() {
        probe.says("ALTERNATIVES: rows, with | between; a ROW: PARTS one behind the other (perhaps none)");
        probe.reads("", 0, "row0()", 0);
        probe.reads("|", 0, "alt2(row0() row0())", 1);
        probe.reads("a|", 0, "alt2(row1(c97) row0())", 2);
        probe.reads("|a", 0, "alt2(row0() row1(c97))", 2);
        probe.reads("||", 0, "alt3(row0() row0() row0())", 2);
        probe.reads("a||b", 0, "alt3(row1(c97) row0() row1(c98))", 4);
        probe.reads("(|)", 0, "row1(group1(alt2(row0() row0())))", 3);
        probe.reads("ab|cd", 0, "alt2(row2(c97 c98) row2(c99 c100))", 5);
        probe.reads("a|(b|c)|d", 0, "alt3(row1(c97) row1(group1(alt2(row1(c98) row1(c99)))) row1(c100))", 9);
    }

    private static void repeatedParts() {
        probe.says("each with a REPEAT behind it or none");
        probe.reads("ab*", 0, "row2(c97 greedy0,-1(c98))", 3);
        probe.reads("a*b", 0, "row2(greedy0,-1(c97) c98)", 3);
        String[] parts = {"a", ".", "^", "$", "[b]", "\\A", "\\z", "\\b", "\\B", "\\C", "\\d", "\\pL", "\\n", "\\x41",
            "\\*", "()", "(?:)", "(?P<n>)", "(?i:)", "\u00E9", "{", "]", "}"};
        for (String part : parts) {
            PatternNodes x = Probe.of(part + "{2,3}", 0);
            int last = x.count(0) - 1;
            probe.due(part + "{2,3} fault", x.fault(0), 0);
            probe.due(part + "{2,3} is one part", x.node(last, 1), 1);
            probe.due(part + "{2,3} is repeated", x.node(last - 1, 0), 7);
        }
    }

    private static void repeats() {
        probe.says("REPEATS: * + ? {n} {n,} {n,m}");
        probe.part("a*", 0, "greedy0,-1(c97)", 2);
        probe.part("a+", 0, "greedy1,-1(c97)", 3);
        probe.part("a?", 0, "greedy0,1(c97)", 2);
        probe.part("a{0}", 0, "greedy0,0(c97)", 0);
        probe.part("a{2}", 0, "greedy2,2(c97)", 2);
        probe.part("a{0,}", 0, "greedy0,-1(c97)", 2);
        probe.part("a{2,}", 0, "greedy2,-1(c97)", 4);
        probe.part("a{0,0}", 0, "greedy0,0(c97)", 0);
        probe.part("a{2,4}", 0, "greedy2,4(c97)", 6);
    }

    private static void digits() {
        probe.says("n and m of one to three digits");
        probe.part("a{7}", 0, "greedy7,7(c97)", 7);
        probe.part("a{07}", 0, "greedy7,7(c97)", 7);
        probe.part("a{007}", 0, "greedy7,7(c97)", 7);
        probe.part("a{100}", 0, "greedy100,100(c97)", 100);
        probe.part("a{7,8}", 0, "greedy7,8(c97)", 9);
        probe.part("a{07,08}", 0, "greedy7,8(c97)", 9);
        probe.part("a{007,008}", 0, "greedy7,8(c97)", 9);
        probe.part("a{007,}", 0, "greedy7,-1(c97)", 9);
        probe.fails("a{999}", 9, 1);
        probe.fails("a{1,999}", 9, 1);
        probe.reads("a{0007}", 0, "row7(c97 c123 c48 c48 c48 c55 c125)", 7);
        probe.reads("a{7,0008}", 0, "row9(c97 c123 c55 c44 c48 c48 c48 c56 c125)", 9);
        probe.reads("a{0007,}", 0, "row8(c97 c123 c48 c48 c48 c55 c44 c125)", 8);
        probe.reads("a{1000}", 0, "row7(c97 c123 c49 c48 c48 c48 c125)", 7);
        probe.reads("a{}", 0, "row3(c97 c123 c125)", 3);
        probe.reads("a{,7}", 0, "row5(c97 c123 c44 c55 c125)", 5);
        for (int n = 0; n <= 100; n++) {
            probe.part("a{" + n + ",100}", 0, "greedy" + n + ",100(c97)", 200 - n);
            probe.part("a{0," + n + "}", 0, "greedy0," + n + "(c97)", 2 * n);
        }
        // Next to the digits, / and : are none.
        probe.reads("a{/}", 0, "row4(c97 c123 c47 c125)", 4);
        probe.reads("a{:}", 0, "row4(c97 c123 c58 c125)", 4);
        probe.part("a{0,9}", 0, "greedy0,9(c97)", 18);
    }

    private static void laziness() {
        probe.says("each with a ? behind it or not: LAZY with one of that and U on, else GREEDY");
        String[] signs = {"*", "+", "?", "{2}", "{2,}", "{2,3}"};
        String[] bounds = {"0,-1", "1,-1", "0,1", "2,2", "2,-1", "2,3"};
        int[] sizes = {2, 3, 2, 2, 4, 4};
        for (int k = 0; k < signs.length; k++) {
            for (int flags = 0; flags < 16; flags++) {
                boolean u = flags >= 8;
                // Letters would be classes with i on, a digit has none alike.
                String greedy = "greedy" + bounds[k] + "(c49)";
                String lazy = "lazy" + bounds[k] + "(c49)";
                probe.part("1" + signs[k], flags, u ? lazy : greedy, sizes[k]);
                probe.part("1" + signs[k] + "?", flags, u ? greedy : lazy, sizes[k]);
            }
        }
        probe.reads("a*(?U)a*a*?(?-U)a*", 0,
            "row6(greedy0,-1(c97) row0() lazy0,-1(c97) greedy0,-1(c97) row0() greedy0,-1(c97))", 8);
        probe.reads("(?U:a*)*", 0, "row1(greedy0,-1(group0(row1(lazy0,-1(c97)))))", 3);
        probe.reads("((?U))a*", 0, "row2(group1(row1(row0())) greedy0,-1(c97))", 4);
    }

    private static void leafSizes() {
        probe.says("SIZE: . as a class, \\C 1; ^ $ \\A \\z \\b \\B 1");
        probe.part(".", 0, "[0-9 11-55295 57344-1114111]", 14);
        probe.part(".", 4, "[0-55295 57344-1114111]", 10);
        probe.part("\\C", 0, "byte", 1);
        probe.part("^", 0, "at0", 1);
        probe.part("$", 0, "at1", 1);
        probe.part("^", 2, "at2", 1);
        probe.part("$", 2, "at3", 1);
        probe.part("\\A", 0, "at0", 1);
        probe.part("\\z", 0, "at1", 1);
        probe.part("\\b", 0, "at4", 1);
        probe.part("\\B", 0, "at5", 1);
    }

    private static void groupSizes() {
        probe.says("a group 2 more if it is numbered");
        probe.part("()", 0, "group1(row0())", 2);
        probe.part("(a)", 0, "group1(row1(c97))", 3);
        probe.part("(?P<n>a)", 0, "group1(row1(c97))", 3);
        probe.part("(?:)", 0, "group0(row0())", 0);
        probe.part("(?:a)", 0, "group0(row1(c97))", 1);
        probe.part("(?i-m:1)", 0, "group0(row1(c49))", 1);
        probe.part("((a))", 0, "group1(row1(group2(row1(c97))))", 5);
    }

    private static void rowSizes() {
        probe.says("a row, alternatives: the sum, and 1 for each |");
        probe.reads("abc", 0, "row3(c97 c98 c99)", 3);
        probe.reads("a[b]\\C", 0, "row3(c97 [98] byte)", 8);
        probe.reads("a|b", 0, "alt2(row1(c97) row1(c98))", 3);
        probe.reads("a|b|c", 0, "alt3(row1(c97) row1(c98) row1(c99))", 5);
        probe.reads("|||", 0, "alt4(row0() row0() row0() row0())", 3);
        probe.says("(?flags), an empty row: 0");
        probe.reads("", 0, "row0()", 0);
        probe.part("(?i)", 0, "row0()", 0);
        probe.reads("(?i)(?m)(?-s)", 0, "row3(row0() row0() row0())", 0);
    }

    private static void repeatSizes() {
        probe.says("x* and x? 1 more");
        probe.part("(?:abc)*", 0, "greedy0,-1(group0(row3(c97 c98 c99)))", 4);
        probe.part("(?:abc)?", 0, "greedy0,1(group0(row3(c97 c98 c99)))", 4);
        probe.part("(?:)*", 0, "greedy0,-1(group0(row0()))", 1);
        probe.says("x+ twice x and 1");
        probe.part("(?:abc)+", 0, "greedy1,-1(group0(row3(c97 c98 c99)))", 7);
        probe.part("(?:)+", 0, "greedy1,-1(group0(row0()))", 1);
        probe.says("x{n,} n times x, and x and 1 (n 0: as *)");
        probe.part("(?:abc){0,}", 0, "greedy0,-1(group0(row3(c97 c98 c99)))", 4);
        probe.part("(?:abc){1,}", 0, "greedy1,-1(group0(row3(c97 c98 c99)))", 7);
        probe.part("(?:abc){2,}", 0, "greedy2,-1(group0(row3(c97 c98 c99)))", 10);
        probe.part("(?:abc){100,}", 0, "greedy100,-1(group0(row3(c97 c98 c99)))", 304);
        probe.part("(?:){100,}", 0, "greedy100,-1(group0(row0()))", 1);
        probe.says("x{n,m} m times x, and m - n");
        probe.part("(?:abc){2}", 0, "greedy2,2(group0(row3(c97 c98 c99)))", 6);
        probe.part("(?:abc){0}", 0, "greedy0,0(group0(row3(c97 c98 c99)))", 0);
        probe.part("(?:abc){0,0}", 0, "greedy0,0(group0(row3(c97 c98 c99)))", 0);
        probe.part("(?:abc){0,1}", 0, "greedy0,1(group0(row3(c97 c98 c99)))", 4);
        probe.part("(?:abc){2,5}", 0, "greedy2,5(group0(row3(c97 c98 c99)))", 18);
        probe.part("(?:abc){0,100}?", 0, "lazy0,100(group0(row3(c97 c98 c99)))", 400);
        probe.part("(?:){0,100}", 0, "greedy0,100(group0(row0()))", 100);
    }

    private static void nodesAre(String pattern, int[][] due) {
        PatternNodes x = Probe.of(pattern, 0);
        probe.due(pattern + " nodes", x.count(0), due.length);
        for (int i = 0; i < due.length; i++) {
            probe.due(pattern + " node(" + i + ", 0)", x.node(i, 0), due[i][0]);
            probe.due(pattern + " node(" + i + ", 1)", x.node(i, 1), due[i][1]);
            probe.due(pattern + " node(" + i + ", 3)", x.node(i, 3), due[i][2]);
        }
    }

    private static void order() {
        probe.says("NODES of a pattern, each behind those that are its own, these in their order, numbered from 0 on");
        nodesAre("", new int[][] {{4, 0, -1}});
        nodesAre("ab", new int[][] {{0, 97, 2}, {0, 98, 2}, {4, 2, -1}});
        nodesAre("(a|b*)c|", new int[][] {
            {0, 97, 1}, {4, 1, 5}, {0, 98, 3}, {7, 0, 4}, {4, 1, 5}, {5, 2, 6}, {6, 1, 8}, {0, 99, 8}, {4, 2, 10},
            {4, 0, 10}, {5, 2, -1}});
        nodesAre("((a)b)(?:c)", new int[][] {
            {0, 97, 1}, {4, 1, 2}, {6, 2, 4}, {0, 98, 4}, {4, 2, 5}, {6, 1, 9}, {0, 99, 7}, {4, 1, 8}, {6, 0, 9},
            {4, 2, -1}});
    }

    private static void kinds() {
        probe.says("of KIND 0 a character (VALUE); 1 a class (also . and the sets of escapes); 2 \\C");
        nodesAre("\u0000a\uDBFF\uDFFF\\n", new int[][] {{0, 0, 4}, {0, 97, 4}, {0, 1114111, 4}, {0, 10, 4}, {4, 4, -1}});
        nodesAre("[a].\\d\\D\\s\\S\\w\\W\\pL\\PL", new int[][] {{1, -1, 10}, {1, -1, 10}, {1, -1, 10}, {1, -1, 10},
            {1, -1, 10}, {1, -1, 10}, {1, -1, 10}, {1, -1, 10}, {1, -1, 10}, {1, -1, 10}, {4, 10, -1}});
        nodesAre("\\C", new int[][] {{2, -1, 1}, {4, 1, -1}});

        probe.says("3 an assertion (VALUE 0 the beginning, 1 the end, 2 ^ with m, 3 $ with m, 4 \\b, 5 \\B)");
        nodesAre("^$(?m)^$(?-m)\\A\\z\\b\\B", new int[][] {{3, 0, 10}, {3, 1, 10}, {4, 0, 10}, {3, 2, 10}, {3, 3, 10},
            {4, 0, 10}, {3, 0, 10}, {3, 1, 10}, {3, 4, 10}, {3, 5, 10}, {4, 10, -1}});
        nodesAre("(?m)\\A\\z", new int[][] {{4, 0, 3}, {3, 0, 3}, {3, 1, 3}, {4, 3, -1}});
    }

    private static void values() {
        probe.says("6 a group (VALUE: its number, or 0); 7 a greedy, 8 a lazy repeat (VALUE: the least, MOST, or NONE for no end)");
        nodesAre("(?:)()", new int[][] {{4, 0, 1}, {6, 0, 4}, {4, 0, 3}, {6, 1, 4}, {4, 2, -1}});
        int[][] bounds = {{0, 0}, {0, 1}, {0, 100}, {1, 1}, {99, 100}, {100, 100}};
        for (int[] bound : bounds) {
            String text = "{" + bound[0] + "," + bound[1] + "}";
            probe.due("least of " + text, Probe.of("a" + text, 0).node(1, 1), bound[0]);
            probe.due("most of " + text, Probe.of("a" + text, 0).node(1, 2), bound[1]);
            probe.due("kind of " + text, Probe.of("a" + text, 0).node(1, 0), 7);
            probe.due("kind of lazy " + text, Probe.of("a" + text + "?", 0).node(1, 0), 8);
        }
        String[] endless = {"*", "+", "{0,}", "{100,}"};
        int[] least = {0, 1, 0, 100};
        for (int k = 0; k < endless.length; k++) {
            probe.due("least of " + endless[k], Probe.of("a" + endless[k], 0).node(1, 1), least[k]);
            probe.due("most of " + endless[k], Probe.of("a" + endless[k], 0).node(1, 2), -1);
        }
    }

    private static void rowsOfNone() {
        probe.says("4 a row (VALUE: how many parts it has; (?flags) is a row of none)");
        for (int many = 0; many <= 400; many += 25) {
            PatternNodes x = Probe.of("a".repeat(many), 0);
            probe.due(many + " parts", x.node(many, 1), many);
        }
        nodesAre("(?i)", new int[][] {{4, 0, 1}, {4, 1, -1}});
        nodesAre("a(?i)1", new int[][] {{0, 97, 3}, {4, 0, 3}, {0, 49, 3}, {4, 3, -1}});
        nodesAre("(?)|", new int[][] {{4, 0, 1}, {4, 1, 3}, {4, 0, 3}, {5, 2, -1}});
    }

    private static void oneAlone() {
        probe.says("5 alternatives (VALUE: how many rows, two or more; one alone stands for itself)");
        nodesAre("a", new int[][] {{0, 97, 1}, {4, 1, -1}});
        nodesAre("(a)", new int[][] {{0, 97, 1}, {4, 1, 2}, {6, 1, 3}, {4, 1, -1}});
        nodesAre("|", new int[][] {{4, 0, 2}, {4, 0, 2}, {5, 2, -1}});
        nodesAre("(|)", new int[][] {{4, 0, 2}, {4, 0, 2}, {5, 2, 3}, {6, 1, 4}, {4, 1, -1}});
        for (int many = 1; many <= 400; many += 57) {
            PatternNodes x = Probe.of("|".repeat(many), 0);
            probe.due(many + " of |", x.node(many + 1, 1), many + 1);
            probe.due(many + " of | size", x.node(many + 1, 4), many);
        }
    }

    private static void theLastNode() {
        probe.says("The last node is all of it");
        String[] patterns = {"", "a", "|", "(a)", "a*", "(?i)", "[a]", "a|b*|(c)"};
        int[] kinds = {4, 4, 5, 4, 4, 4, 4, 5};
        for (int k = 0; k < patterns.length; k++) {
            PatternNodes x = Probe.of(patterns[k], 0);
            int last = x.count(0) - 1;
            probe.due(patterns[k] + " kind", x.node(last, 0), kinds[k]);
            probe.due(patterns[k] + " is of none", x.node(last, 3), -1);
            for (int i = 0; i < last; i++) {
                probe.due(patterns[k] + " node " + i + " is of one", x.node(i, 3) > i, true);
            }
        }
    }

    /** Patterns of 400 bytes that have most of something. */
    private static void fullPatterns() {
        probe.says("there would be more than 400: what 400 bytes can hold is read whole");
        sumIs("a".repeat(400), 0, 401, 400);
        sumIs("a*".repeat(200), 0, 401, 400);
        sumIs("(|)".repeat(9) + "|".repeat(373), 0, 411, 9 * 3 + 373);
        sumIs("(?:)".repeat(100), 0, 201, 0);
        sumIs("(?)".repeat(133), 0, 134, 0);
        sumIs("k".repeat(400), 1, 401, 400 * 14);
        sumIs(".".repeat(400), 0, 401, 400 * 14);
        sumIs("\\PL".repeat(133) + ".", 0, 135, 133 * 46 + 14);
        sumIs("\\W".repeat(200), 0, 201, 200 * 26);
        sumIs("[^ks]".repeat(80), 1, 81, 80 * (2 + 4 * 8));
        sumIs("(?:".repeat(30) + "a".repeat(280) + ")".repeat(30), 0, 341, 280);
        sumIs("\uD83D\uDE00".repeat(100), 0, 101, 100);
    }

    private static void sumIs(String pattern, int flags, int nodes, int size) {
        PatternNodes x = Probe.of(pattern, flags);
        String call = pattern.substring(0, 10) + " ..";
        probe.due(call + " nodes", x.count(0), nodes);
        probe.due(call + " size", x.node(nodes - 1, 4), size);
    }
}
