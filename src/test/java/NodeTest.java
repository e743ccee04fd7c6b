/** Promises 3 and 6: which nodes a pattern has, in which order, with which flags, and their sizes. */
public final class NodeTest {
    private static final String DOT = "[0-9 11-55295 57344-1114111]";
    private static final String ANY = "[0-55295 57344-1114111]";
    private static final Probe probe = new Probe("node");

    public static void main(String[] args) {
        rowsAndAlternatives();
        groups();
        assertions();
        escapes();
        braces();
        repeats();
        flagsInGroups();
        laziness();
        sizes();
        largest();
        everyAnswerOfANode();
        wrongInputs();
        fullTrees();
        probe.end();
    }

    private static void rowsAndAlternatives() {
        probe.reads("", 0, "row0()", 0);
        probe.reads("abc", 0, "row3(c97 c98 c99)", 3);
        probe.reads("|", 0, "alt2(row0() row0())", 1);
        probe.reads("a||b", 0, "alt3(row1(c97) row0() row1(c98))", 4);
        probe.reads("a|b|", 0, "alt3(row1(c97) row1(c98) row0())", 4);
        probe.reads("]}{>-,:", 0, "row7(c93 c125 c123 c62 c45 c44 c58)", 7);
        probe.reads("\u0000\n\u007F\u00E9\u20AC", 0, "row5(c0 c10 c127 c233 c8364)", 5);
    }

    private static void groups() {
        probe.part("()", 0, "group1(row0())", 2);
        probe.part("(?:)", 0, "group0(row0())", 0);
        probe.part("(?:a)", 0, "group0(row1(c97))", 1);
        probe.part("(?P<n>a|b)", 0, "group1(alt2(row1(c97) row1(c98)))", 5);
        probe.reads("((a)|(?:b))(c)", 0,
            "row2(group1(alt2(row1(group2(row1(c97))) row1(group0(row1(c98))))) group3(row1(c99)))", 10);
        probe.part("(?)", 0, "row0()", 0);
        probe.reads("a(?i)", 0, "row2(c97 row0())", 1);
        probe.reads("(?i)|(?m)", 0, "alt2(row1(row0()) row1(row0()))", 1);
    }

    private static void assertions() {
        probe.reads("^$\\A\\z\\b\\B", 0, "row6(at0 at1 at0 at1 at4 at5)", 6);
        probe.reads("^$\\A\\z\\b\\B", 2, "row6(at2 at3 at0 at1 at4 at5)", 6);
        probe.reads("^*\\b+", 0, "row2(greedy0,-1(at0) greedy1,-1(at4))", 5);
    }

    private static void escapes() {
        probe.reads("\\a\\f\\n\\r\\t\\v", 0, "row6(c7 c12 c10 c13 c9 c11)", 6);
        probe.reads("\\x41\\xfF\\x{0}\\x{10FFFF}\\x{00004a}\\x{d7ff}\\x{E000}", 0,
            "row7(c65 c255 c0 c1114111 c74 c55295 c57344)", 7);
        probe.reads("\\\\\\^\\$\\.\\|\\?\\*\\+\\(\\)\\[\\]\\{\\}\\-\\ \\\n\\\u0000\\\u007F\\<\\@", 0,
            "row21(c92 c94 c36 c46 c124 c63 c42 c43 c40 c41 c91 c93 c123 c125 c45 c32 c10 c0 c127 c60 c64)", 21);
        probe.part("\\C", 0, "byte", 1);
        probe.part("\\C{3}", 0, "greedy3,3(byte)", 3);
        probe.reads("\\x414", 0, "row2(c65 c52)", 2);
    }

    private static void braces() {
        probe.reads("a{", 0, "row2(c97 c123)", 2);
        probe.reads("a{}", 0, "row3(c97 c123 c125)", 3);
        probe.reads("a{,3}", 0, "row5(c97 c123 c44 c51 c125)", 5);
        probe.reads("a{1", 0, "row3(c97 c123 c49)", 3);
        probe.reads("a{1,", 0, "row4(c97 c123 c49 c44)", 4);
        probe.reads("a{1,2", 0, "row5(c97 c123 c49 c44 c50)", 5);
        probe.reads("a{1001}", 0, "row7(c97 c123 c49 c48 c48 c49 c125)", 7);
        probe.reads("a{1,1000}", 0, "row9(c97 c123 c49 c44 c49 c48 c48 c48 c125)", 9);
        probe.reads("a{ 1}", 0, "row5(c97 c123 c32 c49 c125)", 5);
        probe.reads("a*{x", 0, "row3(greedy0,-1(c97) c123 c120)", 4);
        probe.reads("{*", 0, "row1(greedy0,-1(c123))", 2);
        probe.reads("(?i){a", 0, "row3(row0() c123 [65 97])", 11);
        probe.reads("|{,", 0, "alt2(row0() row2(c123 c44))", 3);
    }

    private static void repeats() {
        probe.part("a*", 0, "greedy0,-1(c97)", 2);
        probe.part("a+", 0, "greedy1,-1(c97)", 3);
        probe.part("a?", 0, "greedy0,1(c97)", 2);
        probe.part("a{3}", 0, "greedy3,3(c97)", 3);
        probe.part("a{003}", 0, "greedy3,3(c97)", 3);
        probe.part("a{3,}", 0, "greedy3,-1(c97)", 5);
        probe.part("a{0,}", 0, "greedy0,-1(c97)", 2);
        probe.part("a{1,}", 0, "greedy1,-1(c97)", 3);
        probe.part("a{2,5}", 0, "greedy2,5(c97)", 8);
        probe.part("a{0,1}", 0, "greedy0,1(c97)", 2);
        probe.part("a{0}", 0, "greedy0,0(c97)", 0);
        probe.part("a*?", 0, "lazy0,-1(c97)", 2);
        probe.part("a+?", 0, "lazy1,-1(c97)", 3);
        probe.part("a??", 0, "lazy0,1(c97)", 2);
        probe.part("a{3,4}?", 0, "lazy3,4(c97)", 5);
        probe.part("(?:a*)*", 0, "greedy0,-1(group0(row1(greedy0,-1(c97))))", 3);
        probe.part("()+", 0, "greedy1,-1(group1(row0()))", 5);
        probe.reads("ab*c", 0, "row3(c97 greedy0,-1(c98) c99)", 4);
        probe.part("\\d+", 0, "greedy1,-1([48-57])", 13);
        probe.part("\u00E9*", 0, "greedy0,-1(c233)", 2);
    }

    private static void flagsInGroups() {
        probe.reads("b(?i)b(?-i)b", 0, "row5(c98 row0() [66 98] row0() c98)", 12);
        probe.reads("(b(?i)b|b)b", 0,
            "row2(group1(alt2(row3(c98 row0() [66 98]) row1([66 98]))) c98)", 25);
        probe.reads("(?i)b|b", 0, "alt2(row2(row0() [66 98]) row1([66 98]))", 21);
        probe.reads("(?i:b)b", 0, "row2(group0(row1([66 98])) c98)", 11);
        probe.reads("(?-i:b)b", 1, "row2(group0(row1(c98)) [66 98])", 11);
        probe.reads("(?i-i:b)", 1, "row1(group0(row1(c98)))", 1);
        probe.reads("(?s:.).", 0, "row2(group0(row1(" + ANY + ")) " + DOT + ")", 24);
        probe.reads("(?-s:.).", 4, "row2(group0(row1(" + DOT + ")) " + ANY + ")", 24);
        probe.reads("(?m:^$)^$", 0, "row3(group0(row2(at2 at3)) at0 at1)", 4);
        probe.reads("(?im-sU:^b.b*)", 12, "row1(group0(row4(at2 [66 98] " + DOT + " greedy0,-1([66 98]))))", 36);
        probe.reads("((?i))b", 0, "row2(group1(row1(row0())) c98)", 3);
        probe.reads("(?i)(b)(?-i)(b)", 0, "row4(row0() group1(row1([66 98])) row0() group2(row1(c98)))", 15);
        probe.reads("(?i)(?m)b^", 0, "row4(row0() row0() [66 98] at2)", 11);
        probe.reads("(?m:b(?-m)b^)", 1, "row1(group0(row4([66 98] row0() [66 98] at0)))", 21);
        probe.reads("(?iimm)b^", 0, "row3(row0() [66 98] at2)", 11);
        probe.reads("(?P<n>(?i)b)b", 0, "row2(group1(row2(row0() [66 98])) c98)", 13);
    }

    private static void laziness() {
        probe.part("a*", 8, "lazy0,-1(c97)", 2);
        probe.part("a*?", 8, "greedy0,-1(c97)", 2);
        probe.part("a{2}", 8, "lazy2,2(c97)", 2);
        probe.part("a{2}?", 8, "greedy2,2(c97)", 2);
        probe.reads("a??(?U)a??", 0, "row3(lazy0,1(c97) row0() greedy0,1(c97))", 4);
        probe.reads("(?U:a)*", 0, "row1(greedy0,-1(group0(row1(c97))))", 2);
        probe.reads("(?U:a+)+", 0, "row1(greedy1,-1(group0(row1(lazy1,-1(c97)))))", 7);
    }

    private static void sizes() {
        probe.part("[a]", 0, "[97]", 6);
        probe.part("[^\\x{0}-\\x{10FFFF}]", 0, "[]", 2);
        probe.part(".", 0, DOT, 14);
        probe.part(".", 4, ANY, 10);
        probe.part("k", 1, "[75 107 8490]", 14);
        probe.part("1", 1, "c49", 1);
        probe.part("(k|1)", 1, "group1(alt2(row1([75 107 8490]) row1(c49)))", 18);
        probe.part("(?:a|b){2,}", 0, "greedy2,-1(group0(alt2(row1(c97) row1(c98))))", 10);
        probe.part("(?:a|b){2,7}", 0, "greedy2,7(group0(alt2(row1(c97) row1(c98))))", 26);
    }

    private static void largest() {
        String million = "(?:(?:a{100}){100}){100}";
        probe.due("a million", last(million, 4), 1000000);
        probe.due("a million and one", last(million + "a", 4), 1000000);
        probe.due("999,901", last("(?:(?:a{100}){99}){100}(?:a{99}){100}a", 4), 999901);
        probe.due("a million times 100", last("(?:" + million + "){100}", 4), 1000000);
        probe.due("a million, 100 and more", last("(?:" + million + "){100,}", 4), 1000000);
        probe.due("many millions", last(("(?:" + million + ")+").repeat(13), 4), 1000000);
        probe.due("none of a million", last("(?:" + million + "){0}", 4), 0);
        probe.due("thirty deep", last("(?:".repeat(30) + "aa" + "){100}".repeat(30), 4), 1000000);
    }

    private static int last(String pattern, int what) {
        PatternNodes x = Probe.of(pattern, 0);
        return x.node(x.count(0) - 1, what);
    }

    private static void everyAnswerOfANode() {
        PatternNodes x = Probe.of("a[bd]\\C^(c)+|(?:e){2,3}?(?m)", 0);
        int[][] due = {
            {0, 97, -1, 8, 1, 0},
            {1, -1, -1, 8, 10, 2},
            {2, -1, -1, 8, 1, 0},
            {3, 0, -1, 8, 1, 0},
            {0, 99, -1, 5, 1, 0},
            {4, 1, -1, 6, 1, 0},
            {6, 1, -1, 7, 3, 0},
            {7, 1, -1, 8, 7, 0},
            {4, 5, -1, 15, 20, 0},
            {0, 101, -1, 10, 1, 0},
            {4, 1, -1, 11, 1, 0},
            {6, 0, -1, 12, 1, 0},
            {8, 2, 3, 14, 4, 0},
            {4, 0, -1, 14, 0, 0},
            {4, 2, -1, 15, 4, 0},
            {5, 2, -1, -1, 25, 0}};
        probe.due("nodes", x.count(0), 16);
        for (int i = 0; i < due.length; i++) {
            for (int what = 0; what < 6; what++) {
                probe.due("node(" + i + ", " + what + ")", x.node(i, what), due[i][what]);
            }
        }
    }

    private static void wrongInputs() {
        PatternNodes x = Probe.of("ab", 0);
        int[] wrong = {-1, 3, 400, Integer.MIN_VALUE, Integer.MAX_VALUE};
        for (int i : wrong) {
            for (int what = 0; what < 6; what++) {
                probe.due("node(" + i + ", " + what + ")", x.node(i, what), -1);
            }
        }
        int[] wrongWhat = {-1, 6, Integer.MIN_VALUE, Integer.MAX_VALUE};
        for (int what : wrongWhat) {
            probe.due("node(0, " + what + ")", x.node(0, what), -1);
        }
    }

    private static void fullTrees() {
        PatternNodes x = Probe.of("(|)".repeat(9) + "|".repeat(373), 0);
        probe.due("most nodes", x.count(0), 9 * 4 + 374 + 1);
        probe.due("rows", x.node(x.count(0) - 1, 1), 374);
        PatternNodes y = Probe.of("a*".repeat(200), 0);
        probe.due("repeats", y.count(0), 401);
        PatternNodes z = Probe.of("(?:)".repeat(100), 0);
        probe.due("groups", z.count(0), 201);
    }
}
