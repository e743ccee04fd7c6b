import java.util.Arrays;
import java.util.HashMap;
import java.util.Map;

/** The edges that the terms CHARACTERS, PARTS and ESCAPES name, sentence by sentence. */
public final class CharacterEdgesTest {
    private static final int LAST = 1114111;
    private static final String DOT = "[0-9 11-55295 57344-1114111]";
    private static final String ANY = "[0-55295 57344-1114111]";
    private static final String[] SIGNS = {"\\", "^", "$", ".", "|", "?", "*", "+", "(", ")", "["};
    private static final Probe probe = new Probe("edges of characters, parts, escapes");

    public static void main(String[] args) {
        everyCharacter();
        surrogates();
        leastLength();
        nothingElse();
        oddBytes();
        signs();
        braces();
        dots();
        anchors();
        groupNumbers();
        nameLengths();
        nameLetters();
        flagLetters();
        flagReach();
        assertions();
        controls();
        twoDigits();
        digitsInBraces();
        charactersByNumber();
        sets();
        properties();
        escapedSigns();
        probe.end();
    }

    private static String of(int c) {
        return new String(Character.toChars(c));
    }

    /** Written by the shifts of UTF-8, so that what is no character, or is too long, can be told too. */
    private static byte[] written(int c, int width) {
        byte[] out = new byte[width];
        for (int k = width - 1; k > 0; k--) {
            out[k] = (byte) (128 | c & 63);
            c >>= 6;
        }
        int[] leads = {0, 0, 192, 224, 240, 248, 252};
        out[0] = (byte) (leads[width] | c);
        return out;
    }

    private static void oddAt(int place, byte[] pattern) {
        PatternNodes x = Probe.of(pattern, 0);
        String text = "";
        for (byte b : pattern) {
            text += Integer.toHexString(b & 255) + " ";
        }
        probe.due(text + "fault(0)", x.fault(0), 1);
        probe.due(text + "fault(1)", x.fault(1), place);
    }

    private static void everyCharacter() {
        probe.says("CHARACTERS are 0 .. 1114111, in bytes as UTF-8 has them");
        Renewed x = new Renewed();
        for (int first = 128; first <= LAST; first += 100) {
            StringBuilder text = new StringBuilder();
            int[] codes = new int[100];
            int many = 0;
            for (int c = first; c < first + 100 && c <= LAST; c++) {
                if (c < 55296 || c > 57343) {
                    text.appendCodePoint(c);
                    codes[many] = c;
                    many++;
                }
            }
            x.read(Probe.utf8(text.toString()), 0);
            probe.due("nodes from " + first + " on", x.count(0), many + 1);
            for (int k = 0; k < many; k++) {
                probe.due("a character", x.node(k, 1), codes[k]);
            }
        }
        probe.part("\u0000", 0, "c0", 1);
        probe.part(of(LAST), 0, "c1114111", 1);
        oddAt(0, written(LAST + 1, 4));
        oddAt(0, written(0x1FFFFF, 4));
    }

    private static void surrogates() {
        probe.says("but 55296 .. 57343");
        for (int c = 55296; c <= 57343; c++) {
            oddAt(1, new byte[] {'a', written(c, 3)[0], written(c, 3)[1], written(c, 3)[2]});
        }
        probe.part(of(55295), 0, "c55295", 1);
        probe.part(of(57344), 0, "c57344", 1);
        // A pair of them is no character either.
        oddAt(0, Probe.bytes(0xED, 0xA0, 0x80, 0xED, 0xB0, 0x80));
    }

    private static void leastLength() {
        probe.says("of least length");
        int[] firstOfWidth = {0, 0, 128, 2048, 65536, 0x200000};
        for (int width = 2; width <= 4; width++) {
            oddAt(0, written(0, width));
            oddAt(0, written('a', width));
            oddAt(0, written(firstOfWidth[width] - 1, width));
            byte[] least = written(firstOfWidth[width], width);
            probe.due("the least of " + width, Probe.tree(Probe.of(least, 0)), "row1(c" + firstOfWidth[width] + ")");
            byte[] most = written(Math.min(firstOfWidth[width + 1] - 1, LAST), width);
            probe.due("the last of " + width, Probe.tree(Probe.of(most, 0)),
                "row1(c" + Math.min(firstOfWidth[width + 1] - 1, LAST) + ")");
        }
        oddAt(0, written(127, 3));
        oddAt(0, written(127, 4));
        oddAt(0, written(2047, 4));
    }

    private static String keyOf(byte[] bytes) {
        StringBuilder out = new StringBuilder();
        for (byte b : bytes) {
            out.append((char) (b & 255));
        }
        return out.toString();
    }

    private static void nothingElse() {
        probe.says("of least length, nothing else");
        Renewed x = new Renewed();
        Map<String, Integer> all = new HashMap<>();
        for (int c = 128; c <= LAST; c++) {
            if (c < 55296 || c > 57343) {
                all.put(keyOf(Probe.utf8(of(c))), c);
            }
        }
        int[] edges = {0, 0x7F, 0x80, 0xBF, 0xC0, 0xFF};
        for (int lead = 128; lead < 256; lead++) {
            sequence(x, all, Probe.bytes(lead));
            for (int second = 0; second < 256; second++) {
                sequence(x, all, Probe.bytes(lead, second));
                for (int third : edges) {
                    sequence(x, all, Probe.bytes(lead, second, third));
                    for (int fourth : edges) {
                        sequence(x, all, Probe.bytes(lead, second, third, fourth));
                    }
                }
            }
        }
        oddAt(0, written(LAST, 5));
        oddAt(0, written(0x200000, 5));
        oddAt(0, written(LAST, 6));
    }

    /** The first byte begins a character if the bytes begin with all of it, and else is odd. */
    private static void sequence(Renewed x, Map<String, Integer> all, byte[] pattern) {
        String key = keyOf(pattern);
        int c = -1;
        for (int width = 2; width <= key.length(); width++) {
            c = Math.max(c, all.getOrDefault(key.substring(0, width), -1));
        }
        x.read(pattern, 0);
        boolean odd = x.fault(0) == 1 && x.fault(1) == 0;
        probe.due("the first byte is odd", odd, c < 0);
        if (x.fault(0) == 0) {
            probe.due("the first character", x.node(0, 1), c);
        }
    }

    private static void oddBytes() {
        probe.says("a byte that begins no character is ODD");
        for (int b = 128; b < 256; b++) {
            oddAt(0, Probe.bytes(b));
            oddAt(0, Probe.bytes(b, 'a'));
            oddAt(1, Probe.bytes('a', b));
            oddAt(2, Probe.bytes('a', '*', b));
            oddAt(1, Probe.bytes('(', b));
            oddAt(1, Probe.bytes('[', b));
            oddAt(2, Probe.bytes('[', '^', b, ']'));
            oddAt(3, Probe.bytes('[', 'a', '-', b, ']'));
        }
        // Bytes inside a character are none that begin one, but are not met.
        oddAt(2, Probe.bytes(0xC3, 0xA9, 0xA9));
        oddAt(3, Probe.bytes(0xE2, 0x82, 0xAC, 0xAC));
        oddAt(4, Probe.bytes(0xF0, 0x9F, 0x98, 0x80, 0x80));
        // Cut off by the pattern's end, at each of its bytes.
        oddAt(1, Probe.bytes('a', 0xC3));
        oddAt(1, Probe.bytes('a', 0xE2));
        oddAt(1, Probe.bytes('a', 0xE2, 0x82));
        oddAt(1, Probe.bytes('a', 0xF0));
        oddAt(1, Probe.bytes('a', 0xF0, 0x9F));
        oddAt(1, Probe.bytes('a', 0xF0, 0x9F, 0x98));
        byte[] full = new byte[400];
        Arrays.fill(full, (byte) 'a');
        full[399] = (byte) 0xC3;
        oddAt(399, full);
    }

    private static void signs() {
        probe.says("a character that is none of \\ ^ $ . | ? * + ( ) [: itself");
        String signs = "\\^$.|?*+()[";
        for (int c = 0; c < 128; c++) {
            if (signs.indexOf(c) < 0) {
                probe.part(of(c), 0, "c" + c, 1);
            } else {
                PatternNodes x = Probe.of(of(c), 0);
                probe.due(of(c) + " is itself", Probe.tree(x), onItsOwn(c));
            }
        }
        probe.fails("\\", 5, 0);
        probe.fails("?", 8, 0);
        probe.fails("*", 8, 0);
        probe.fails("+", 8, 0);
        probe.fails("(", 2, 0);
        probe.fails(")", 3, 0);
        probe.fails("[", 4, 0);
        for (String sign : SIGNS) {
            probe.part("\\" + sign, 0, "c" + (int) sign.charAt(0), 1);
        }
    }

    private static String onItsOwn(int sign) {
        switch (sign) {
            case '^': return "row1(at0)";
            case '$': return "row1(at1)";
            case '.': return "row1(" + DOT + ")";
            case '|': return "alt2(row0() row0())";
            default: return "";
        }
    }

    private static String itself(String text) {
        StringBuilder out = new StringBuilder();
        for (int k = 0; k < text.length(); k++) {
            out.append(k > 0 ? " " : "").append('c').append((int) text.charAt(k));
        }
        return out.toString();
    }

    private static void braces() {
        probe.says("(also {, where no repeat can be read from it): itself");
        String[] none = {"{", "{}", "{,}", "{,1}", "{a}", "{1", "{1a}", "{1,", "{1,a}", "{1,2", "{1,2a}", "{1,2,}",
            "{1 }", "{ 1}", "{-1}", "{1;2}", "{1,,2}", "{1000}", "{0001}", "{1000,}", "{1,1000}", "{0000,1}", "{{",
            "{4294967297}", "{1,4294967298}", "{x41}"};
        for (String text : none) {
            int many = text.length();
            probe.reads(text, 0, "row" + many + "(" + itself(text) + ")", many);
            probe.reads("a" + text, 0, "row" + (many + 1) + "(c97 " + itself(text) + ")", many + 1);
            probe.reads("a|" + text, 0, "alt2(row1(c97) row" + many + "(" + itself(text) + "))", many + 2);
        }
        probe.part("{*", 0, "greedy0,-1(c123)", 2);
        probe.part("{{2}", 0, "greedy2,2(c123)", 2);
        probe.reads("a*{", 0, "row2(greedy0,-1(c97) c123)", 3);
        probe.reads("(?i){", 0, "row2(row0() c123)", 1);
        probe.reads("}", 0, "row1(c125)", 1);
        probe.fails("{1}", 8, 0);
    }

    private static void dots() {
        probe.says(". any character but 10 (with s on: any)");
        probe.part(".", 0, DOT, 14);
        probe.part(".", 11, DOT, 14);
        probe.part(".", 4, ANY, 10);
        probe.part(".", 15, ANY, 10);
        probe.reads("(?s).(?-s).", 0, "row4(row0() " + ANY + " row0() " + DOT + ")", 24);
    }

    private static void anchors() {
        probe.says("^ the subject's beginning (with m on: or behind a byte 10), $ its end (m: or ahead of a byte 10)");
        probe.reads("^$", 0, "row2(at0 at1)", 2);
        probe.reads("^$", 13, "row2(at0 at1)", 2);
        probe.reads("^$", 2, "row2(at2 at3)", 2);
        probe.reads("^$", 15, "row2(at2 at3)", 2);
    }

    private static void groupNumbers() {
        probe.says("( .. ) numbered from 1 on in the order of their (; (?P<name> .. ) likewise; (?flags: .. ) not numbered");
        probe.part("()", 0, "group1(row0())", 2);
        probe.part("(?P<n>)", 0, "group1(row0())", 2);
        probe.part("(?:)", 0, "group0(row0())", 0);
        probe.part("(?i:)", 0, "group0(row0())", 0);
        probe.reads("((?P<n>)(?:())(?-s:))()", 0,
            "row2(group1(row3(group2(row0()) group0(row1(group3(row0()))) group0(row0()))) group4(row0()))", 8);
        StringBuilder nine = new StringBuilder();
        for (int k = 1; k <= 9; k++) {
            nine.append(k > 1 ? " " : "").append("group").append(k).append("(row0())");
        }
        probe.reads("()".repeat(9), 0, "row9(" + nine + ")", 18);
    }

    private static void nameLengths() {
        probe.says("with a NAME of 1 to 12");
        for (int many = 0; many <= 14; many++) {
            String pattern = "(?P<" + "n".repeat(many) + ">a)";
            if (many >= 1 && many <= 12) {
                probe.part(pattern, 0, "group1(row1(c97))", 3);
                probe.due("the last of " + many, Probe.of(pattern, 0).name(1, many - 1), 'n');
                probe.due("behind " + many, Probe.of(pattern, 0).name(1, many), -1);
            } else {
                probe.fails(pattern, 10, 0);
            }
        }
    }

    private static void nameLetters() {
        probe.says("of a .. z A .. Z 0 .. 9 _");
        for (int c = 0; c < 256; c++) {
            boolean letter = c >= 'a' && c <= 'z' || c >= 'A' && c <= 'Z' || c >= '0' && c <= '9' || c == '_';
            PatternNodes x = Probe.of(Probe.bytes('(', '?', 'P', '<', c, '>', ')'), 0);
            probe.due("name of byte " + c, x.fault(0), letter ? 0 : 10);
            probe.due("name of byte " + c, x.name(1, 0), letter ? c : -1);
            PatternNodes y = Probe.of(Probe.bytes('(', '?', 'P', '<', 'n', c, '>', ')'), 0);
            // n> ends the name; the other > stands in the group.
            probe.due("name with byte " + c, y.fault(0), letter || c == '>' ? 0 : 10);
            probe.due("name with byte " + c, y.name(1, 1), letter ? c : -1);
        }
        probe.fails("(?P<n\u00E9>)", 10, 0);
        probe.fails("(?P<\u0661>)", 10, 0);
    }

    private static void flagLetters() {
        probe.says("flags are none or some of i m s U");
        for (int c = 0; c < 256; c++) {
            boolean flag = c == 'i' || c == 'm' || c == 's' || c == 'U';
            PatternNodes x = Probe.of(Probe.bytes('(', '?', c, ':', ')'), 0);
            // : itself ends the flags, and ) does, whose : is a character and whose ) is without a group.
            int due = flag || c == ':' ? 0 : c == ')' ? 3 : 10;
            probe.due("(? and byte " + c, x.fault(0), due);
            PatternNodes y = Probe.of(Probe.bytes('(', '?', c, ')'), 0);
            probe.due("(? and byte " + c + " )", y.fault(0), flag || c == ':' ? 0 : c == ')' ? 3 : 10);
        }
        probe.part("(?)", 0, "row0()", 0);
        probe.part("(?:a)", 0, "group0(row1(c97))", 1);
        probe.part("(?imsU)", 0, "row0()", 0);
        probe.reads("(?imsU)^.b?", 0, "row4(row0() at2 " + ANY + " lazy0,1([66 98]))", 22);
        probe.reads("(?imsU:^.b?)", 0, "row1(group0(row3(at2 " + ANY + " lazy0,1([66 98]))))", 22);

        probe.says("perhaps a -, some again (at least one behind a -)");
        probe.reads("(?-imsU)^.b?", 15, "row4(row0() at0 " + DOT + " greedy0,1(c98))", 17);
        probe.reads("(?i-msU:^.b?)", 14, "row1(group0(row3(at0 " + DOT + " greedy0,1([66 98]))))", 26);
        probe.reads("(?im-sU)^.b?", 12, "row4(row0() at2 " + DOT + " greedy0,1([66 98]))", 26);
        String[] none = {"(?-)", "(?-:)", "(?i-)", "(?i-:)", "(?imsU-)", "(?--i)", "(?i--m)", "(?i-m-s)", "(?-i-)",
            "(?-x)", "(?i-x)", "(?i:-m)(?-"};
        for (String text : none) {
            probe.fails(text, 10, text.lastIndexOf('('));
        }
    }

    private static void flagReach() {
        probe.says("(?flags) a part that takes nothing, whose flags are on (behind a -: off)"
            + " up to the end of the innermost group around it");
        probe.part("(?i)", 0, "row0()", 0);
        probe.reads("b(?i)b", 0, "row3(c98 row0() [66 98])", 11);
        probe.reads("b(?-i)b", 1, "row3([66 98] row0() c98)", 11);
        probe.reads("(b(?i)b)b", 0, "row2(group1(row3(c98 row0() [66 98])) c98)", 14);
        probe.reads("(b(?-i)b)b", 1, "row2(group1(row3([66 98] row0() c98)) [66 98])", 23);
        probe.reads("(?:(?:(?i)b)b)b", 0,
            "row2(group0(row2(group0(row2(row0() [66 98])) c98)) c98)", 12);
        probe.reads("(?i)(b)(?:b)", 0, "row3(row0() group1(row1([66 98])) group0(row1([66 98])))", 22);
        probe.reads("(?i)b|b", 0, "alt2(row2(row0() [66 98]) row1([66 98]))", 21);
        probe.reads("((?i)b|b)|b", 0,
            "alt2(row1(group1(alt2(row2(row0() [66 98]) row1([66 98])))) row1(c98))", 25);
        probe.reads("((?i))b", 0, "row2(group1(row1(row0())) c98)", 3);
        probe.reads("(?i:b(?-i)b)b", 0, "row2(group0(row3([66 98] row0() c98)) c98)", 12);
        probe.reads("(?m)(?i-m)^b", 0, "row4(row0() row0() at0 [66 98])", 11);
        probe.reads("(?i-i)b", 1, "row2(row0() c98)", 1);
        probe.reads("(?i)b(?)b(?-i)", 0, "row5(row0() [66 98] row0() [66 98] row0())", 20);
    }

    private static void assertions() {
        probe.says("\\A the beginning, \\z the end, \\b between a WORD byte and another one or an end, \\B where \\b is not");
        for (int flags = 0; flags < 16; flags++) {
            probe.reads("\\A\\z\\b\\B", flags, "row4(at0 at1 at4 at5)", 4);
        }
        probe.says("\\C any one byte");
        for (int flags = 0; flags < 16; flags++) {
            probe.part("\\C", flags, "byte", 1);
        }
    }

    private static void controls() {
        probe.says("\\a \\f \\n \\r \\t \\v are 7, 12, 10, 13, 9, 11");
        probe.reads("\\a\\f\\n\\r\\t\\v", 0, "row6(c7 c12 c10 c13 c9 c11)", 6);
        probe.reads("\\a\\f\\n\\r\\t\\v", 15, "row6(c7 c12 c10 c13 c9 c11)", 6);
        probe.part("[\\a]", 0, "[7]", 6);
        probe.part("[\\f]", 0, "[12]", 6);
        probe.part("[\\n]", 0, "[10]", 6);
        probe.part("[\\r]", 0, "[13]", 6);
        probe.part("[\\t]", 0, "[9]", 6);
        probe.part("[\\v]", 0, "[11]", 6);
    }

    private static void twoDigits() {
        probe.says("\\x with two hexadecimal digits: that character");
        String digits = "0123456789abcdefABCDEF";
        Renewed x = new Renewed();
        for (int first = 0; first < 256; first++) {
            for (int second = 0; second < 256; second++) {
                if (first == '{') {
                    continue;
                }
                boolean both = first < 128 && second < 128 && digits.indexOf(first) >= 0 && digits.indexOf(second) >= 0;
                x.read(Probe.bytes('\\', 'x', first, second), 0);
                String call = "\\x and bytes " + first + " " + second;
                if (both) {
                    int c = Character.digit(first, 16) * 16 + Character.digit(second, 16);
                    probe.due(call, x.node(0, 1), c);
                    probe.due(call + " nodes", x.count(0), 2);
                } else {
                    probe.due(call + " fault(0)", x.fault(0), 5);
                    probe.due(call + " fault(1)", x.fault(1), 0);
                }
            }
        }
        probe.reads("\\x414", 0, "row2(c65 c52)", 2);
        probe.fails("\\x", 5, 0);
        probe.fails("\\x4", 5, 0);
        probe.fails("a\\x4", 5, 1);
        probe.fails("[\\x4]", 5, 1);
    }

    private static void digitsInBraces() {
        probe.says("or { one to six of them }");
        for (int many = 0; many <= 10; many++) {
            String number = many == 0 ? "" : "0".repeat(many - 1) + "7";
            String pattern = "\\x{" + number + "}";
            if (many >= 1 && many <= 6) {
                probe.part(pattern, 0, "c7", 1);
                probe.part("[" + pattern + "]", 0, "[7]", 6);
            } else {
                probe.fails(pattern, 5, 0);
                probe.fails("[" + pattern + "]", 5, 1);
            }
            probe.fails("\\x{" + number, 5, 0);
            probe.fails("\\x{" + number + ")", 5, 0);
        }
        String digits = "0123456789abcdefABCDEF";
        for (int c = 0; c < 128; c++) {
            PatternNodes x = Probe.of("\\x{1" + of(c) + "}", 0);
            if (digits.indexOf(c) >= 0) {
                probe.due("digit " + of(c), x.node(0, 1), 16 + Character.digit(c, 16));
            } else if (c != '}') {
                probe.due("no digit " + c, x.fault(0), 5);
            }
        }
        probe.reads("\\x{41}}", 0, "row2(c65 c125)", 2);
        probe.reads("\\x{4}{2}", 0, "row1(greedy2,2(c4))", 2);
    }

    private static void charactersByNumber() {
        probe.says("that character (FAULT 5 if it is none)");
        int[] some = {0, 1, 127, 128, 255, 256, 2047, 2048, 55294, 55295, 57344, 57345, 65535, 65536, LAST - 1, LAST};
        for (int c : some) {
            probe.part("\\x{" + Integer.toHexString(c) + "}", 0, "c" + c, 1);
            probe.part("\\x{" + Integer.toHexString(c).toUpperCase() + "}", 0, "c" + c, 1);
        }
        int[] none = {55296, 55297, 56319, 56320, 57342, 57343, LAST + 1, LAST + 2, 0x200000, 0xFFFFFF};
        for (int c : none) {
            probe.fails("\\x{" + Integer.toHexString(c) + "}", 5, 0);
            probe.fails("a[b\\x{" + Integer.toHexString(c) + "}]", 5, 3);
            probe.fails("a[b-\\x{" + Integer.toHexString(c) + "}]", 5, 4);
        }
    }

    private static void sets() {
        probe.says("\\d 0 .. 9, \\s 9, 10, 12, 13, 32, \\w WORD, \\D \\S \\W the characters that are not");
        probe.part("\\d", 0, "[48-57]", 6);
        probe.part("\\s", 0, "[9-10 12-13 32]", 14);
        probe.part("\\w", 0, "[48-57 65-90 95 97-122]", 18);
        probe.part("\\D", 0, "[0-47 58-55295 57344-1114111]", 14);
        probe.part("\\S", 0, "[0-8 11 14-31 33-55295 57344-1114111]", 22);
        probe.part("\\W", 0, "[0-47 58-64 91-94 96 123-55295 57344-1114111]", 26);
        probe.part("\\w", 15, "[48-57 65-90 95 97-122]", 18);
    }

    private static void properties() {
        probe.says("\\pL \\pN \\pG \\pY; \\P likewise: those that are not");
        probe.part("\\pL", 0, "[65-90 97-122 170 181 186 192-214 216-246 248-687 880-1279]", 38);
        probe.part("\\pN", 0, "[48-57 178-179 185 188-190]", 18);
        probe.part("\\pG", 0, "[880-1023]", 6);
        probe.part("\\pY", 0, "[1024-1279]", 6);
        probe.part("\\PL", 0,
            "[0-64 91-96 123-169 171-180 182-185 187-191 215 247 688-879 1280-55295 57344-1114111]", 46);
        probe.part("\\PN", 0, "[0-47 58-177 180-184 186-187 191-55295 57344-1114111]", 26);
        probe.part("\\PG", 0, "[0-879 1024-55295 57344-1114111]", 14);
        probe.part("\\PY", 0, "[0-1023 1280-55295 57344-1114111]", 14);
        probe.part("\\pG", 1, "[880-1023]", 6);
    }

    private static void escapedSigns() {
        probe.says("\\ before another character below 128 that is no letter, digit or _: itself");
        String known = "AzbBafnrtvdswDSWC";
        for (int c = 0; c < 128; c++) {
            String pattern = "\\" + of(c);
            boolean word = Character.isLetterOrDigit(c) || c == '_';
            if (!word) {
                probe.part(pattern, 0, "c" + c, 1);
                probe.part("[" + pattern + "]", 0, "[" + c + "]", 6);
            } else if (known.indexOf(c) < 0) {
                // \x and the two of \p are cut off by the end.
                probe.fails(pattern, 5, 0);
                probe.fails("a" + pattern, 5, 1);
            } else {
                probe.due(pattern, Probe.of(pattern, 0).fault(0), 0);
            }
        }
        for (int b = 128; b < 256; b++) {
            probe.fails(Probe.bytes('\\', b), 0, 5, 0);
            probe.fails(Probe.bytes('a', '[', '\\', b, ']'), 0, 5, 2);
        }
        int[] above = {128, 255, 2047, 2048, 65535, 65536, LAST};
        for (int c : above) {
            probe.fails("\\" + of(c), 5, 0);
        }
    }
}
