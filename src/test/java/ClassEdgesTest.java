import java.util.TreeSet;

/** The edges that the term A CLASS, and what i does, name, sentence by sentence. */
public final class ClassEdgesTest {
    private static final int LAST = 1114111;
    private static final Probe probe = new Probe("edges of classes");
    private static final String[] NAMES = {"digit", "alpha", "upper", "lower", "punct", "space"};
    private static final String[] NAMED = {
        "48-57", "65-90 97-122", "65-90", "97-122", "33-47 58-64 91-96 123-126", "9-13 32"};
    private static final String[] NOT_NAMED = {
        "0-47 58", "0-64 91-96 123", "0-64 91", "0-96 123", "0-32 48-57 65-90 97-122 127", "0-8 14-31 33"};

    public static void main(String[] args) {
        negation();
        bracketFirst();
        singleItems();
        dashes();
        ranges();
        setItems();
        namedSets();
        fewRanges();
        noCharacters();
        sizes();
        everyAlike();
        edgesOfAlike();
        alikeInClasses();
        alikeAheadOfNegation();
        notOtherItems();
        probe.end();
    }

    private static String of(int c) {
        return new String(Character.toChars(c));
    }

    private static void is(String pattern, int flags, String ranges) {
        PatternNodes x = Probe.of(pattern, flags);
        String call = "'" + pattern + "' flags " + flags;
        probe.due(call, Probe.tree(x), "row1([" + ranges + "])");
        probe.due(call + " size", x.node(0, 4), 2 + 4 * x.node(0, 5));
    }

    private static void negation() {
        probe.says("[ or [^ (those that are not), ITEMS, ]");
        is("[a]", 0, "97");
        is("[^a]", 0, "0-96 98-55295 57344-1114111");
        is("[^^]", 0, "0-93 95-55295 57344-1114111");
        is("[a^]", 0, "94 97");
        is("[\\^a]", 0, "94 97");
        is("[^\\x{0}]", 0, "1-55295 57344-1114111");
        is("[^\\x{10FFFF}]", 0, "0-55295 57344-1114110");
        is("[^\\x{0}-\\x{10FFFF}]", 0, "");
        is("[^\\x{1}-\\x{10FFFE}]", 0, "0 1114111");
        is("[^\\x{0}-\\x{D7FF}\\x{E000}-\\x{10FFFF}]", 0, "");
        is("[\\x{0}-\\x{10FFFF}]", 0, "0-55295 57344-1114111");
        is("[^\\d\\D]", 0, "");
        probe.fails("[", 4, 0);
        probe.fails("[^", 4, 0);
        probe.fails("[^^", 4, 0);
    }

    private static void bracketFirst() {
        probe.says("] as the first item is itself");
        is("[]]", 0, "93");
        is("[^]]", 0, "0-92 94-55295 57344-1114111");
        is("[]a]", 0, "93 97");
        is("[^]a]", 0, "0-92 94-96 98-55295 57344-1114111");
        is("[]-a]", 0, "93-97");
        is("[]-]", 0, "45 93");
        probe.reads("[a]]", 0, "row2([97] c93)", 7);
        probe.reads("[]]]", 0, "row2([93] c93)", 7);
        probe.reads("[^a]]", 0, "row2([0-96 98-55295 57344-1114111] c93)", 15);
        probe.fails("[]", 4, 0);
        probe.fails("[^]", 4, 0);
        is("[^^\\]]", 0, "0-92 95-55295 57344-1114111");
    }

    private static void singleItems() {
        probe.says("An item: a character (but \\ and ]), an escape that is one");
        for (int c = 0; c < 128; c++) {
            if (c == '\\' || c == ']') {
                continue;
            }
            is("[~" + of(c) + "]", 0, pair(c, '~'));
            is("[" + of(c) + "~]", 0, c == '^' ? "0-125 127-55295 57344-1114111" : pair(c, '~'));
        }
        int[] wider = {128, 2047, 2048, 55295, 57344, 65535, 65536, LAST};
        for (int c : wider) {
            is("[" + of(c) + "]", 0, "" + c);
            is("[\\x{" + Integer.toHexString(c) + "}]", 0, "" + c);
        }
        is("[\\x41\\n\\\\\\]\\-]", 0, "10 45 65 92-93");
        probe.fails("[\\]", 4, 0);
        probe.fails("[a\\]", 4, 0);
        String[] noCharacters = {"A", "z", "b", "B", "C"};
        for (String letter : noCharacters) {
            probe.fails("[\\" + letter + "]", 5, 1);
        }
    }

    private static String pair(int c, int d) {
        int low = Math.min(c, d);
        int high = Math.max(c, d);
        if (low == high) {
            return "" + low;
        }
        return low + (high == low + 1 ? "-" : " ") + high;
    }

    private static void dashes() {
        probe.says("(a - behind which ] stands is itself)");
        is("[-]", 0, "45");
        is("[a-]", 0, "45 97");
        is("[^a-]", 0, "0-44 46-96 98-55295 57344-1114111");
        is("[--]", 0, "45");
        is("[a-c-]", 0, "45 97-99");
        is("[\\d-]", 0, "45 48-57");
        is("[[:digit:]-]", 0, "45 48-57");
        is("[+--]", 0, "43-45");
        is("[---]", 0, "45");
        is("[-a]", 0, "45 97");
        is("[-a-c]", 0, "45 97-99");
        is("[a-c-e]", 0, "45 97-99 101");
        is("[\\d-z]", 0, "45 48-57 122");
        is("[\\--0]", 0, "45-48");
        is("[+-\\-]", 0, "43-45");
        probe.reads("[a-]-]", 0, "row3([45 97] c45 c93)", 12);
    }

    private static void ranges() {
        probe.says("or with - and another such one behind it a RANGE");
        for (int from = '0'; from <= 'Z'; from++) {
            for (int to = '0'; to <= 'Z'; to++) {
                String pattern = "[" + of(from) + "-" + of(to) + "]";
                if (from <= to) {
                    is(pattern, 0, from == to ? "" + from : from + "-" + to);
                } else {
                    probe.fails(pattern, 6, 1);
                }
            }
        }
        is("[a-a]", 0, "97");
        is("[\\x{0}-\\x{0}]", 0, "0");
        is("[\\x{10FFFF}-\\x{10FFFF}]", 0, "1114111");
        is("[\\a-\\r]", 0, "7-13");
        is("[A-\\]]", 0, "65-93");
        is("[\u00E9-\u20AC]", 0, "233-8364");
        is("[A-[]", 0, "65-91");
        is("[[-a]", 0, "91-97");
        is("[^-a]", 0, "0-44 46-96 98-55295 57344-1114111");
        is("[!-^]", 0, "33-94");
    }

    private static void setItems() {
        probe.says("\\d \\s \\w \\p and their negations");
        is("[\\d]", 0, "48-57");
        is("[\\s]", 0, "9-10 12-13 32");
        is("[\\w]", 0, "48-57 65-90 95 97-122");
        is("[\\D]", 0, "0-47 58-55295 57344-1114111");
        is("[\\S]", 0, "0-8 11 14-31 33-55295 57344-1114111");
        is("[\\W]", 0, "0-47 58-64 91-94 96 123-55295 57344-1114111");
        is("[\\pL]", 0, "65-90 97-122 170 181 186 192-214 216-246 248-687 880-1279");
        is("[\\pN]", 0, "48-57 178-179 185 188-190");
        is("[\\pG]", 0, "880-1023");
        is("[\\pY]", 0, "1024-1279");
        is("[\\PL]", 0, "0-64 91-96 123-169 171-180 182-185 187-191 215 247 688-879 1280-55295 57344-1114111");
        is("[\\PN]", 0, "0-47 58-177 180-184 186-187 191-55295 57344-1114111");
        is("[\\PG]", 0, "0-879 1024-55295 57344-1114111");
        is("[\\PY]", 0, "0-1023 1280-55295 57344-1114111");
        is("[^\\W]", 0, "48-57 65-90 95 97-122");
        is("[\\s\\S]", 0, "0-55295 57344-1114111");
        is("[x\\dy]", 0, "48-57 120-121");
    }

    private static void namedSets() {
        probe.says("[:digit:] [:alpha:] [:upper:] [:lower:] [:punct:] [:space:]");
        for (int k = 0; k < NAMES.length; k++) {
            is("[[:" + NAMES[k] + ":]]", 0, NAMED[k]);
            is("[^[:^" + NAMES[k] + ":]]", 0, NAMED[k]);
        }
        is("[[:upper:][:digit:]_]", 0, "48-57 65-90 95");
        is("[[:digit:]:]", 0, "48-58");

        probe.says("and [:^ likewise: those that are not");
        for (int k = 0; k < NAMES.length; k++) {
            is("[[:^" + NAMES[k] + ":]]", 0, NOT_NAMED[k] + "-55295 57344-1114111");
            is("[^[:" + NAMES[k] + ":]]", 0, NOT_NAMED[k] + "-55295 57344-1114111");
        }
        is("[[:^digit:][:digit:]]", 0, "0-55295 57344-1114111");
    }

    private static void fewRanges() {
        probe.says("ranges as few as may be, apart by more than 1");
        is("[ab]", 0, "97-98");
        is("[ba]", 0, "97-98");
        is("[ac]", 0, "97 99");
        is("[aa]", 0, "97");
        is("[acb]", 0, "97-99");
        is("[a-ce-g]", 0, "97-99 101-103");
        is("[a-cd-g]", 0, "97-103");
        is("[d-ga-c]", 0, "97-103");
        is("[a-cc-g]", 0, "97-103");
        is("[a-gc-d]", 0, "97-103");
        is("[c-da-g]", 0, "97-103");
        is("[a-ce-gd]", 0, "97-103");
        is("[a-bd-eg-hj-kc-i]", 0, "97-107");
        is("[zyxwvutsrqponmlkjihgfedcba]", 0, "97-122");
        is("[^b-c]", 0, "0-97 100-55295 57344-1114111");
        is("[^ac]", 0, "0-96 98 100-55295 57344-1114111");
        StringBuilder everySecond = new StringBuilder("[");
        for (int c = 131; c < 131 + 2 * 198; c += 2) {
            everySecond.append((char) c);
        }
        PatternNodes x = Probe.of(everySecond.append("]").toString(), 0);
        probe.due("every second one", x.node(0, 5), 198);
        probe.due("the last of them", x.range(0, 197, 0), 131 + 2 * 197);
        PatternNodes y = Probe.of(everySecond.insert(1, "^").toString(), 0);
        probe.due("and those that are not", y.node(0, 5), 200);
        probe.due("the one ahead of the last", y.range(0, 197, 0), 131 + 2 * 197 - 1);
    }

    private static void noCharacters() {
        probe.says("what is no character parts two");
        is("[\\x{D7FF}\\x{E000}]", 0, "55295 57344");
        is("[\\x{D7FF}-\\x{E000}]", 0, "55295 57344");
        is("[\\x{D7FE}-\\x{E001}]", 0, "55294-55295 57344-57345");
        is("[\\x{D7FE}-\\x{D7FF}]", 0, "55294-55295");
        is("[\\x{E000}-\\x{E001}]", 0, "57344-57345");
        is("[^\\x{D7FF}]", 0, "0-55294 57344-1114111");
        is("[^\\x{E000}]", 0, "0-55295 57345-1114111");
        is("[^\\x{D7FF}-\\x{E000}]", 0, "0-55294 57345-1114111");
        is("[^\\x{E000}-\\x{10FFFF}]", 0, "0-55295");
        is("[^\\x{0}-\\x{D7FF}]", 0, "57344-1114111");
        is(".", 4, "0-55295 57344-1114111");
        is("\\D", 0, "0-47 58-55295 57344-1114111");
    }

    private static void sizes() {
        probe.says("SIZE of a class 2 and 4 for each range of it");
        probe.part("[^\\x{0}-\\x{10FFFF}]", 0, "[]", 2);
        probe.part("[a]", 0, "[97]", 6);
        probe.part("[a-z]", 0, "[97-122]", 6);
        probe.part("[ac]", 0, "[97 99]", 10);
        probe.part("[\\x{D7FF}-\\x{E000}]", 0, "[55295 57344]", 10);
        probe.part("\\PL", 0,
            "[0-64 91-96 123-169 171-180 182-185 187-191 215 247 688-879 1280-55295 57344-1114111]", 46);
        probe.says("SIZE of a character 1 (with i on, when others are alike: as a class)");
        probe.part("k", 0, "c107", 1);
        probe.part("k", 1, "[75 107 8490]", 14);
        probe.part("b", 1, "[66 98]", 10);
        probe.part("1", 1, "c49", 1);
        probe.part("[1]", 1, "[49]", 6);
    }

    /** Who leads the characters that are alike to one, found by the document's words, one by one. */
    private static int[] leaders() {
        int[] leader = new int[9000];
        for (int c = 0; c < leader.length; c++) {
            leader[c] = c;
        }
        for (int c = 'a'; c <= 'z'; c++) {
            join(leader, c, c - 'a' + 'A');
        }
        for (int c = 224; c <= 254; c++) {
            if (c != 247) {
                join(leader, c, c - 32);
            }
        }
        for (int c = 945; c <= 969; c++) {
            join(leader, c, c - 32);
        }
        for (int c = 1072; c <= 1103; c++) {
            join(leader, c, c - 32);
        }
        for (int c = 1104; c <= 1119; c++) {
            join(leader, c, c - 80);
        }
        int[] more = {962, 963, 962, 931, 107, 8490, 115, 383, 229, 8491, 181, 956};
        for (int k = 0; k < more.length; k += 2) {
            join(leader, more[k], more[k + 1]);
        }
        return leader;
    }

    private static void join(int[] leader, int a, int b) {
        int from = leader[a];
        int to = leader[b];
        for (int c = 0; c < leader.length; c++) {
            leader[c] = leader[c] == from ? to : leader[c];
        }
    }

    private static TreeSet<Integer> alikeTo(int[] leader, int c) {
        TreeSet<Integer> out = new TreeSet<>();
        out.add(c);
        for (int d = 0; c < leader.length && d < leader.length; d++) {
            if (leader[d] == leader[c]) {
                out.add(d);
            }
        }
        return out;
    }

    private static String rangesOf(TreeSet<Integer> set) {
        StringBuilder out = new StringBuilder();
        for (int c : set) {
            if (set.contains(c - 1)) {
                continue;
            }
            int end = c;
            while (set.contains(end + 1)) {
                end++;
            }
            out.append(out.length() > 0 ? " " : "").append(c).append(end > c ? "-" + end : "");
        }
        return out.toString();
    }

    private static void everyAlike() {
        probe.says("With i on a character that has others alike is a class");
        int[] leader = leaders();
        for (int c = 0; c < leader.length; c++) {
            TreeSet<Integer> alike = alikeTo(leader, c);
            String escaped = "\\x{" + Integer.toHexString(c) + "}";
            if (alike.size() > 1) {
                is(of(c), 1, rangesOf(alike));
                is(escaped, 1, rangesOf(alike));
            } else {
                probe.part(escaped, 1, "c" + c, 1);
            }
            is("[" + escaped + "]", 1, rangesOf(alike));
        }
        Renewed x = new Renewed();
        for (int c = leader.length; c <= LAST; c++) {
            if (c % 7 < 2 && (c < 55296 || c > 57343)) {
                x.read(Probe.utf8(of(c)), 1);
                probe.due("kind of " + c, x.node(0, 0), 0);
            }
        }
    }

    private static void edgesOfAlike() {
        probe.says("a .. z and A .. Z by letters; 224 .. 254 (but 247) and those 32 less; 945 .. 969 and those 32 less,"
            + " and 962 with 963 and 931; 1072 .. 1103 and those 32 less; 1104 .. 1119 and those 80 less;"
            + " 107 with 8490, 115 with 383, 229 with 8491, 181 with 956 (and what is alike to any of these)");
        int[] pairs = {'a', 'A', 'z', 'Z', 224, 192, 246, 214, 248, 216, 254, 222, 945, 913, 969, 937,
            1072, 1040, 1103, 1071, 1104, 1024, 1119, 1039};
        for (int k = 0; k < pairs.length; k += 2) {
            is(of(pairs[k]), 1, pairs[k + 1] + " " + pairs[k]);
            is(of(pairs[k + 1]), 1, pairs[k + 1] + " " + pairs[k]);
        }
        int[] alone = {'@', '[', '`', '{', 191, 215, 223, 247, 255, 912, 938, 944, 970, 1023, 1120, 180, 182,
            382, 384, 8489, 8492};
        for (int c : alone) {
            probe.part("\\x{" + Integer.toHexString(c) + "}", 1, "c" + c, 1);
        }
        String[] more = {"75 107 8490", "83 115 383", "197 229 8491", "181 924 956"};
        for (String kin : more) {
            for (String c : kin.split(" ")) {
                is(of(Integer.parseInt(c)), 1, kin);
            }
        }
        // 930 is 32 less than 962, so that it is alike to what 962 is alike to.
        int[] sigmas = {930, 931, 962, 963};
        for (int c : sigmas) {
            is(of(c), 1, "930-931 962-963");
        }
    }

    private static void alikeInClasses() {
        probe.says("With i on, in a class characters and ranges have all that are ALIKE besides");
        is("[b]", 1, "66 98");
        is("[b]", 14, "98");
        is("[k]", 1, "75 107 8490");
        is("[j-l]", 1, "74-76 106-108 8490");
        is("[a-z]", 1, "65-90 97-122 383 8490");
        is("[Z-a]", 1, "65 90-97 122");
        is("[@-\\[]", 1, "64-91 97-122 383 8490");
        is("[\\x{DF}-\\x{E0}]", 1, "192 223-224");
        is("[\\x{D6}-\\x{D8}]", 1, "214-216 246 248");
        is("[\\x{FE}-\\x{FF}]", 1, "222 254-255");
        is("[\\x{3B0}-\\x{3B1}]", 1, "913 944-945");
        is("[\\x{3C9}-\\x{3CA}]", 1, "937 969-970");
        is("[\\x{40F}-\\x{410}]", 1, "1039-1040 1072 1119");
        is("[\\x{44F}-\\x{450}]", 1, "1024 1071 1103-1104");
        is("[\\x{45F}-\\x{460}]", 1, "1039 1119-1120");
        is("[\\x{2129}-\\x{212C}]", 1, "75 107 197 229 8489-8492");
        is("[\\x{17E}-\\x{180}]", 1, "83 115 382-384");
        is("[\\x{B4}-\\x{B6}]", 1, "180-182 924 956");
        int[] leader = leaders();
        int[] edges = {64, 75, 91, 97, 115, 181, 191, 215, 230, 247, 255, 383, 912, 930, 931, 938, 944, 956, 962, 970,
            1023, 1039, 1072, 1104, 1120, 8490, 8491, 8999};
        for (int from : edges) {
            for (int to : edges) {
                if (from <= to) {
                    TreeSet<Integer> all = new TreeSet<>();
                    for (int c = from; c <= to; c++) {
                        all.add(c);
                        all.add(leader[c]);
                    }
                    for (int c = 0; c < leader.length; c++) {
                        if (all.contains(leader[c])) {
                            all.add(c);
                        }
                    }
                    is("[\\x{" + Integer.toHexString(from) + "}-\\x{" + Integer.toHexString(to) + "}]", 1, rangesOf(all));
                }
            }
        }
        is("[\\x{0}-\\x{10FFFF}]", 1, "0-55295 57344-1114111");
    }

    private static void alikeAheadOfNegation() {
        probe.says("in a class (ahead of [^)");
        is("[^b]", 1, "0-65 67-97 99-55295 57344-1114111");
        is("[^s]", 1, "0-82 84-114 116-382 384-55295 57344-1114111");
        is("[^a-z]", 1, "0-64 91-96 123-382 384-8489 8491-55295 57344-1114111");
        is("[^\\x{0}-`{-\\x{10FFFF}]", 1, "");
        is("[^\\x{0}-@\\[-\\x{10FFFF}]", 1, "");
        is("[^\\x{0}-@\\[-\\x{10FFFF}]", 0, "65-90");
    }

    private static void notOtherItems() {
        probe.says("characters and ranges, not other items");
        is("[[:lower:]]", 1, "97-122");
        is("[[:upper:]]", 1, "65-90");
        is("[[:^upper:]]", 1, "0-64 91-55295 57344-1114111");
        is("[\\w]", 1, "48-57 65-90 95 97-122");
        is("\\w", 1, "48-57 65-90 95 97-122");
        is("[\\W]", 1, "0-47 58-64 91-94 96 123-55295 57344-1114111");
        is("[\\pL]", 1, "65-90 97-122 170 181 186 192-214 216-246 248-687 880-1279");
        is("\\pG", 1, "880-1023");
        is("[\\pN]", 1, "48-57 178-179 185 188-190");
        is("[[:upper:]b]", 1, "65-90 98");
        is(".", 1, "0-9 11-55295 57344-1114111");
    }
}
