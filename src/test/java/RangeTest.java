/** Promise 7 (and the classes of promise 3): which ranges a class has, in their order. */
public final class RangeTest {
    private static final Probe probe = new Probe("range");

    public static void main(String[] args) {
        characters();
        ranges();
        dashes();
        brackets();
        merging();
        negated();
        escapedSets();
        properties();
        namedSets();
        alikeCharacters();
        alikeRanges();
        noCharacters();
        wrongInputs();
        manyRanges();
        probe.end();
    }

    /** The pattern is one class with these ranges. */
    private static void is(String pattern, int flags, String ranges) {
        PatternNodes x = Probe.of(pattern, flags);
        probe.due("'" + pattern + "' flags " + flags, Probe.tree(x), "row1(" + ranges + ")");
        probe.due("'" + pattern + "' size", x.node(0, 4), 2 + 4 * x.node(0, 5));
    }

    private static void characters() {
        is("[a]", 0, "[97]");
        is("[ca]", 0, "[97 99]");
        is("[.*+?(){}|$]", 0, "[36 40-43 46 63 123-125]");
        is("[a^]", 0, "[94 97]");
        is("[\u00E9\u20AC]", 0, "[233 8364]");
        is("[\\a\\f\\n\\r\\t\\v]", 0, "[7 9-13]");
        is("[\\x41\\x{20AC}\\\\\\]\\-\\^]", 0, "[45 65 92-94 8364]");
    }

    private static void ranges() {
        is("[a-c]", 0, "[97-99]");
        is("[a-a]", 0, "[97]");
        is("[a-cx-z0]", 0, "[48 97-99 120-122]");
        is("[\\x41-\\x{43}]", 0, "[65-67]");
        is("[\\--/]", 0, "[45-47]");
        is("[\\t-\\r]", 0, "[9-13]");
        is("[A-\\]]", 0, "[65-93]");
        is("[A-[]", 0, "[65-91]");
        is("[[-a]", 0, "[91-97]");
        is("[a-\\x{10FFFF}]", 0, "[97-55295 57344-1114111]");
        is("[a-\u00E9]", 0, "[97-233]");
    }

    private static void dashes() {
        is("[-]", 0, "[45]");
        is("[-a]", 0, "[45 97]");
        is("[a-]", 0, "[45 97]");
        is("[^-]", 0, "[0-44 46-55295 57344-1114111]");
        is("[--]", 0, "[45]");
        is("[---]", 0, "[45]");
        is("[+--]", 0, "[43-45]");
        is("[--0]", 0, "[45-48]");
        is("[a-c-e]", 0, "[45 97-99 101]");
        is("[a-c-]", 0, "[45 97-99]");
        is("[\\d-z]", 0, "[45 48-57 122]");
        is("[\\d--/]", 0, "[45-57]");
        is("[[:digit:]-z]", 0, "[45 48-57 122]");
        is("[\\d-]", 0, "[45 48-57]");
    }

    private static void brackets() {
        is("[]]", 0, "[93]");
        is("[]a]", 0, "[93 97]");
        is("[]-a]", 0, "[93-97]");
        is("[]-]", 0, "[45 93]");
        is("[^]a]", 0, "[0-92 94-96 98-55295 57344-1114111]");
        is("[[]", 0, "[91]");
        is("[[a]", 0, "[91 97]");
        is("[a[.b]", 0, "[46 91 97-98]");
        is("[:a:]", 0, "[58 97]");
        is("[:digit:]", 0, "[58 100 103 105 116]");
    }

    private static void merging() {
        is("[abc]", 0, "[97-99]");
        is("[cba]", 0, "[97-99]");
        is("[ac]", 0, "[97 99]");
        is("[acb]", 0, "[97-99]");
        is("[a-cd-f]", 0, "[97-102]");
        is("[d-fa-c]", 0, "[97-102]");
        is("[a-fc-d]", 0, "[97-102]");
        is("[c-da-f]", 0, "[97-102]");
        is("[acegb-f]", 0, "[97-103]");
        is("[aegib-h]", 0, "[97-105]");
        is("[aa]", 0, "[97]");
        is("[a-ce-gi-kb-j]", 0, "[97-107]");
    }

    private static void negated() {
        is("[^a]", 0, "[0-96 98-55295 57344-1114111]");
        is("[^\\x{0}]", 0, "[1-55295 57344-1114111]");
        is("[^\\x{10FFFF}]", 0, "[0-55295 57344-1114110]");
        is("[^\\x{D7FF}\\x{E000}]", 0, "[0-55294 57345-1114111]");
        is("[^\\x{0}-\\x{D7FF}]", 0, "[57344-1114111]");
        is("[^\\x{E000}-\\x{10FFFF}]", 0, "[0-55295]");
        is("[^\\x{0}-\\x{10FFFF}]", 0, "[]");
        is("[^\\d\\D]", 0, "[]");
        is("[^\\D]", 0, "[48-57]");
        is("[^\\W\\d]", 0, "[65-90 95 97-122]");
    }

    private static void escapedSets() {
        is("\\d", 0, "[48-57]");
        is("\\D", 0, "[0-47 58-55295 57344-1114111]");
        is("\\s", 0, "[9-10 12-13 32]");
        is("\\S", 0, "[0-8 11 14-31 33-55295 57344-1114111]");
        is("\\w", 0, "[48-57 65-90 95 97-122]");
        is("\\W", 0, "[0-47 58-64 91-94 96 123-55295 57344-1114111]");
        is("[\\d\\s]", 0, "[9-10 12-13 32 48-57]");
        is("[\\D]", 0, "[0-47 58-55295 57344-1114111]");
        is("[\\d\\D]", 0, "[0-55295 57344-1114111]");
    }

    private static void properties() {
        String letters = "65-90 97-122 170 181 186 192-214 216-246 248-687 880-1279";
        is("\\pL", 0, "[" + letters + "]");
        is("\\pN", 0, "[48-57 178-179 185 188-190]");
        is("\\pG", 0, "[880-1023]");
        is("\\pY", 0, "[1024-1279]");
        String noLetters = "[0-64 91-96 123-169 171-180 182-185 187-191 215 247 688-879 1280-55295 57344-1114111]";
        is("\\PL", 0, noLetters);
        is("\\PN", 0, "[0-47 58-177 180-184 186-187 191-55295 57344-1114111]");
        is("\\PG", 0, "[0-879 1024-55295 57344-1114111]");
        is("\\PY", 0, "[0-1023 1280-55295 57344-1114111]");
        is("[\\pG\\pY]", 0, "[880-1279]");
        is("[^\\pL]", 0, noLetters);
        is("[\\pN_]", 0, "[48-57 95 178-179 185 188-190]");
    }

    private static void namedSets() {
        is("[[:digit:]]", 0, "[48-57]");
        is("[[:alpha:]]", 0, "[65-90 97-122]");
        is("[[:upper:]]", 0, "[65-90]");
        is("[[:lower:]]", 0, "[97-122]");
        is("[[:punct:]]", 0, "[33-47 58-64 91-96 123-126]");
        is("[[:space:]]", 0, "[9-13 32]");
        is("[[:^digit:]]", 0, "[0-47 58-55295 57344-1114111]");
        is("[[:^alpha:]]", 0, "[0-64 91-96 123-55295 57344-1114111]");
        is("[[:^upper:]]", 0, "[0-64 91-55295 57344-1114111]");
        is("[[:^lower:]]", 0, "[0-96 123-55295 57344-1114111]");
        is("[[:^punct:]]", 0, "[0-32 48-57 65-90 97-122 127-55295 57344-1114111]");
        is("[[:^space:]]", 0, "[0-8 14-31 33-55295 57344-1114111]");
        is("[^[:^digit:]]", 0, "[48-57]");
        is("[[:upper:][:digit:]_]", 0, "[48-57 65-90 95]");
    }

    private static void alikeCharacters() {
        is("a", 1, "[65 97]");
        is("Z", 1, "[90 122]");
        is("k", 1, "[75 107 8490]");
        is("\u212A", 1, "[75 107 8490]");
        is("\u017F", 1, "[83 115 383]");
        is("\u00C5", 1, "[197 229 8491]");
        is("\u212B", 1, "[197 229 8491]");
        is("\u00B5", 1, "[181 924 956]");
        is("\u039C", 1, "[181 924 956]");
        is("\u03C2", 1, "[930-931 962-963]");
        is("\u03A3", 1, "[930-931 962-963]");
        is("\\x6B", 1, "[75 107 8490]");
        is("\\x{e9}", 1, "[201 233]");
        is("[k]", 1, "[75 107 8490]");
        is("[\\x6B]", 1, "[75 107 8490]");
        is("[^s]", 1, "[0-82 84-114 116-382 384-55295 57344-1114111]");
        int[] alone = {'0', '_', 64, 91, 96, 123, 191, 215, 223, 247, 255, 912, 938, 944, 970, 1023, 1120, 8489, 8492, 384};
        for (int c : alone) {
            probe.due("alone " + c, Probe.tree(Probe.of(new String(Character.toChars(c)).replace("[", "\\["), 1)),
                "row1(c" + c + ")");
        }
    }

    private static void alikeRanges() {
        is("[a-c]", 1, "[65-67 97-99]");
        is("[J-L]", 1, "[74-76 106-108 8490]");
        is("[a-z]", 1, "[65-90 97-122 383 8490]");
        is("[Z-a]", 1, "[65 90-97 122]");
        is("[\\x{e0}-\\x{ff}]", 1, "[192-214 216-222 224-255 8491]");
        is("[\\x{c0}-\\x{df}]", 1, "[192-246 248-254 8491]");
        is("[\\x{3b1}-\\x{3c9}]", 1, "[181 913-937 945-969]");
        is("[\\x{430}-\\x{45f}]", 1, "[1024-1119]");
        is("[\\x{0}-\\x{10FFFF}]", 1, "[0-55295 57344-1114111]");
        is("[^\\x{0}-\\x{10FFFF}]", 1, "[]");
        is("[\\x{2000}-\\x{3000}]", 1, "[75 107 197 229 8192-12288]");
        // Items that are no characters or ranges have none alike.
        is("[[:lower:]]", 1, "[97-122]");
        is("[[:upper:]a]", 1, "[65-90 97]");
        is("[\\w]", 1, "[48-57 65-90 95 97-122]");
        is("\\w", 1, "[48-57 65-90 95 97-122]");
        is("\\pG", 1, "[880-1023]");
        is("[\\pG]", 1, "[880-1023]");
    }

    private static void noCharacters() {
        is("[\\x{D7FF}-\\x{E000}]", 0, "[55295 57344]");
        is("[\\x{D7FF}\\x{E000}]", 0, "[55295 57344]");
        is("[\\x{D000}-\\x{F000}]", 0, "[53248-55295 57344-61440]");
        is("[^\\x{D000}-\\x{F000}]", 0, "[0-53247 61441-1114111]");
        is("[^\\x{D7FF}-\\x{E000}]", 0, "[0-55294 57345-1114111]");
    }

    private static void wrongInputs() {
        PatternNodes x = Probe.of("a[bd]c\\d", 0);
        probe.due("range(1, 0, 0)", x.range(1, 0, 0), 98);
        probe.due("range(1, 1, 1)", x.range(1, 1, 1), 100);
        probe.due("range(3, 0, 0)", x.range(3, 0, 0), 48);
        probe.due("range(3, 0, 1)", x.range(3, 0, 1), 57);
        int[] wrong = {-1, 2, Integer.MIN_VALUE, Integer.MAX_VALUE};
        for (int value : wrong) {
            probe.due("range(1, " + value + ", 0)", x.range(1, value, 0), -1);
            probe.due("range(1, 0, " + value + ")", x.range(1, 0, value), -1);
        }
        int[] noClass = {-1, 0, 2, 4, 5, Integer.MIN_VALUE, Integer.MAX_VALUE};
        for (int i : noClass) {
            probe.due("range(" + i + ", 0, 0)", x.range(i, 0, 0), -1);
            probe.due("range(" + i + ", 0, 1)", x.range(i, 0, 1), -1);
        }
        probe.due("range(3, 1, 0)", x.range(3, 1, 0), -1);
    }

    private static void manyRanges() {
        PatternNodes x = Probe.of("\\PL".repeat(133) + ".", 0);
        probe.due("the last class", Probe.ranges(x, 133), "[0-9 11-55295 57344-1114111]");
        probe.due("the last \\PL", x.range(132, 10, 0), 57344);
        PatternNodes y = Probe.of("k".repeat(400), 1);
        probe.due("the last k", Probe.ranges(y, 399), "[75 107 8490]");
        StringBuilder apart = new StringBuilder("[");
        for (int c = 129; c < 129 + 2 * 199; c += 2) {
            apart.append((char) c);
        }
        PatternNodes z = Probe.of(apart.append("]").toString(), 0);
        probe.due("199 ranges", z.node(0, 5), 199);
        probe.due("the last of them", z.range(0, 198, 1), 129 + 2 * 198);
    }
}
