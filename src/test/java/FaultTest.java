/** Promise 4 (and what of promise 3 is refused): each fault, its place, and which comes first. */
public final class FaultTest {
    private static final Probe probe = new Probe("fault");

    public static void main(String[] args) {
        oddBytes();
        endsInGroup();
        closesNothing();
        endsInClass();
        escapes();
        ranges();
        sets();
        repeats();
        times();
        openings();
        names();
        depth();
        numbered();
        firstMet();
        anotherWhat();
        probe.end();
    }

    private static void odd(int place, int... values) {
        probe.fails(Probe.bytes(values), 0, 1, place);
    }

    private static void oddBytes() {
        odd(0, 0x80);
        odd(0, 0xBF);
        odd(0, 0xFF);
        odd(0, 0xF8, 0x88, 0x80, 0x80, 0x80);
        odd(0, 0xF8, 0x90, 0x80, 0x80);
        odd(0, 0xFC, 0x90, 0x80, 0x80);
        odd(0, 0xC3);
        odd(0, 0xC3, 'a');
        odd(0, 0xC0, 0xAF);
        odd(0, 0xC1, 0xBF);
        odd(0, 0xE0, 0x9F, 0xBF);
        odd(0, 0xE2, 0x82);
        odd(0, 0xED, 0xA0, 0x80);
        odd(0, 0xED, 0xBF, 0xBF);
        odd(0, 0xF0, 0x8F, 0xBF, 0xBF);
        odd(0, 0xF4, 0x90, 0x80, 0x80);
        odd(0, 0xF0, 0x9F, 0x98);
        odd(2, 0xC3, 0xA9, 0xA9);
        odd(1, '[', 0xFF, ']');
        odd(3, '[', 'a', '-', 0xFF, ']');
        odd(1, 'a', 0xFE, '(');
        probe.reads("\u0080\u07FF\u0800\uD7FF\uE000\uFFFF\uD800\uDC00\uDBFF\uDFFF", 0,
            "row8(c128 c2047 c2048 c55295 c57344 c65535 c65536 c1114111)", 8);
    }

    private static void endsInGroup() {
        probe.fails("(", 2, 0);
        probe.fails("a(b", 2, 1);
        probe.fails("(a(b)(?:c", 2, 5);
        probe.fails("(a(b)c", 2, 0);
        probe.fails("(?i:", 2, 0);
        probe.fails("((?i)", 2, 0);
        probe.fails("(?P<n>a|", 2, 0);
    }

    private static void closesNothing() {
        probe.fails(")", 3, 0);
        probe.fails("a)", 3, 1);
        probe.fails("(a))", 3, 3);
        probe.fails("(?i))", 3, 4);
        probe.fails("a|)", 3, 2);
    }

    private static void endsInClass() {
        probe.fails("[", 4, 0);
        probe.fails("[^", 4, 0);
        probe.fails("[]", 4, 0);
        probe.fails("[^]", 4, 0);
        probe.fails("[^]a", 4, 0);
        probe.fails("ab[c", 4, 2);
        probe.fails("[a-", 4, 0);
        probe.fails("[A-[", 4, 0);
        probe.fails("[[", 4, 0);
        probe.fails("([a", 4, 1);
        probe.fails("[\\]", 4, 0);
        probe.fails("[[:digit:]", 4, 0);
    }

    private static void escapes() {
        String[] none = {"\\", "\\q", "\\_", "\\0", "\\9", "\\Z", "\\E", "\\e", "\\u", "\\x", "\\x4", "\\x4g", "\\xg4",
            "\\x{", "\\x{}", "\\x{4", "\\x{41", "\\x{4g}", "\\x{1234567}", "\\x{0000041}", "\\x{110000}",
            "\\x{FFFFFF}", "\\x{D800}", "\\x{DFFF}", "\\p", "\\P", "\\\u00E9"};
        for (String escape : none) {
            probe.fails(escape, 5, 0);
            probe.fails("ab" + escape, 5, 2);
            probe.fails("[a" + escape, 5, 2);
            probe.fails("(" + escape, 5, 1);
        }
        String[] notInClass = {"\\A", "\\z", "\\b", "\\B", "\\C"};
        for (String escape : notInClass) {
            probe.fails("[" + escape + "]", 5, 1);
            probe.fails("[a-" + escape + "]", 5, 3);
        }
        probe.fails("[a-\\q]", 5, 3);
        probe.fails("[a-\\", 5, 3);
        probe.fails("[a-\\x{110000}]", 5, 3);
        probe.fails(Probe.bytes('\\', 0xFF), 0, 5, 0);
        probe.fails(Probe.bytes('\\', 0x80), 0, 5, 0);
    }

    private static void ranges() {
        probe.fails("[b-a]", 6, 1);
        probe.fails("[xyb-a]", 6, 3);
        probe.fails("[\\x62-a]", 6, 1);
        probe.fails("[a-\\x{60}]", 6, 1);
        probe.fails("[a--]", 6, 1);
        probe.fails("[a-[b]", 6, 1);
        probe.fails("[^b-a]", 6, 2);
        probe.fails("[]-A]", 6, 1);
        probe.fails("[\u00E9-a]", 6, 1);
        String[] ends = {"\\d", "\\s", "\\w", "\\D", "\\S", "\\W", "\\pL", "\\PL", "\\pX", "[:digit:]", "[:x", "[:"};
        for (String end : ends) {
            probe.fails("[a-" + end + "]", 6, 1);
        }
        probe.fails("[b-a", 6, 1);
        probe.fails("[0a-\\d", 6, 2);
    }

    private static void sets() {
        String[] none = {"[:foo:]", "[:digit]", "[:digit", "[:", "[::]", "[:Digit:]", "[:digits:]", "[:alnum:]",
            "[:^:]", "[:^^digit:]", "[: digit:]", "[:word:]"};
        for (String set : none) {
            probe.fails("[" + set + "]", 7, 1);
            probe.fails("[" + set, 7, 1);
            probe.fails("[^ab" + set + "]", 7, 4);
        }
        probe.fails("[[:digit:", 7, 1);
        probe.fails("\\pX", 7, 0);
        probe.fails("\\Pl", 7, 0);
        probe.fails("\\p{L}", 7, 0);
        probe.fails("\\p\u00E9", 7, 0);
        probe.fails("a\\p^L", 7, 1);
        probe.fails("[\\pX]", 7, 1);
    }

    private static void repeats() {
        String[] all = {"*", "+", "?", "{2}", "{0,}", "{1,2}", "{2,1}", "{101}"};
        for (String repeat : all) {
            probe.fails(repeat, 8, 0);
            probe.fails("a|" + repeat, 8, 2);
            probe.fails("(?:" + repeat + ")", 8, 3);
            probe.fails("(a|" + repeat, 8, 3);
            probe.fails("(?i)" + repeat, 8, 4);
            probe.fails("a(?)" + repeat, 8, 4);
            probe.fails("a*?" + repeat, 8, 3);
            probe.fails("a??" + repeat, 8, 3);
            probe.fails("a{1}?" + repeat, 8, 5);
            if (!repeat.equals("?")) {
                probe.fails("(" + repeat + ")", 8, 1);
                probe.fails("a+" + repeat, 8, 2);
                probe.fails("a{3}" + repeat, 8, 4);
            }
        }
    }

    private static void times() {
        probe.fails("a{2,1}", 9, 1);
        probe.fails("a{101}", 9, 1);
        probe.fails("a{101,}", 9, 1);
        probe.fails("a{0,101}", 9, 1);
        probe.fails("ab{999,999}?", 9, 2);
        probe.fails("a{100,99}", 9, 1);
        probe.reads("a{100,100}", 0, "row1(greedy100,100(c97))", 100);
        probe.reads("a{0,000}", 0, "row1(greedy0,0(c97))", 0);
    }

    private static void openings() {
        String[] none = {"(?", "(?x)", "(?i", "(?-", "(?-)", "(?i-)", "(?i-:a)", "(?--i)", "(?i-m-s)", "(?P", "(?P)",
            "(?P<", "(?P<>a)", "(?P<n", "(?P<n-m>a)", "(?P<abcdefghijklm>a)", "(?P=n)", "(?P>n)", "(?<n>a)", "(?=a)",
            "(?!a)", "(?#a)", "(?I)", "(?u)", "(?im", "(?P<n\u00E9>a)", "(?i|a)"};
        for (String opening : none) {
            probe.fails(opening, 10, 0);
            probe.fails("a(" + opening, 10, 2);
        }
        probe.fails(Probe.bytes('(', '?', 0xFF), 0, 10, 0);
    }

    private static void names() {
        probe.fails("(?P<n>a)(?P<n>b)", 11, 8);
        probe.fails("(?P<n>(?P<n>b", 11, 6);
        probe.fails("(?P<m>)(?P<n>)(?P<nn>)(?P<n>)", 11, 22);
        probe.fails("(?P<abcdefghijkl>)(?P<abcdefghijkl>)", 11, 18);
        probe.reads("(?P<n>)(?P<N>)(?P<nn>)", 0, "row3(group1(row0()) group2(row0()) group3(row0()))", 6);
        // A name that is there counts ahead of one group too many.
        probe.fails("(?P<n>)()()()()()()()()(?P<n>)", 11, 23);
    }

    private static void depth() {
        String thirty = "(?:".repeat(30);
        PatternNodes x = Probe.of(thirty + ")".repeat(30), 0);
        probe.due("thirty groups", x.count(0), 61);
        probe.fails(thirty + "(?:", 12, 90);
        probe.fails(thirty + "(", 12, 90);
        probe.fails(thirty + "(?P<n>", 12, 90);
        probe.fails(thirty + "(?x", 10, 90);
        probe.fails(thirty + "(?i)", 2, 87);
        probe.fails("(?:".repeat(29) + "(a)(?:)(?:(", 12, 97);
        probe.fails("((((((((((", 13, 9);
        // At the same ( more than 30 within one another comes ahead of more than 9 numbered.
        probe.fails("()()()()()()()()()" + thirty + "(", 12, 108);
        probe.fails("(?P<n>)" + thirty + "(?P<n>", 11, 97);
    }

    private static void numbered() {
        probe.fails("()()()()()()()()()()", 13, 18);
        probe.fails("()()()()()()()()()(?P<n>)", 13, 18);
        PatternNodes x = Probe.of("()()()()()()()()()(?:)(?i)", 0);
        probe.due("nine numbered", x.count(1), 9);
    }

    private static void firstMet() {
        probe.fails("(a**", 8, 3);
        probe.fails("([b-a", 6, 2);
        probe.fails("[a)\\q", 5, 3);
        probe.fails("a)**", 3, 1);
        probe.fails("(\\", 5, 1);
        probe.fails(Probe.bytes('a', '*', '*', 0xFF), 0, 8, 2);
        probe.fails(Probe.bytes('(', 0xFF), 0, 1, 1);
        probe.fails("(?i", 10, 0);
        probe.fails("(a|[b", 4, 3);
    }

    private static void anotherWhat() {
        PatternNodes x = Probe.of("a)", 0);
        int[] wrong = {-1, 2, Integer.MIN_VALUE, Integer.MAX_VALUE};
        for (int what : wrong) {
            probe.due("fault(" + what + ")", x.fault(what), -1);
        }
        probe.due("fault(0)", x.fault(0), 3);
        probe.due("fault(1)", x.fault(1), 1);
    }
}
