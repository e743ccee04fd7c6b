/** The edges that the term FAULTS names, sentence by sentence, and which fault comes first. */
public final class FaultEdgesTest {
    private static final Probe probe = new Probe("edges of faults");
    private static final String[] SETS = {"\\d", "\\s", "\\w", "\\D", "\\S", "\\W", "\\pL", "\\pN", "\\pG", "\\pY",
        "\\PL", "\\PN", "\\PG", "\\PY"};
    private static final String[] REPEATS = {"*", "+", "?", "{0}", "{2}", "{2,}", "{2,3}", "{100}"};

    public static void main(String[] args) {
        metFirst();
        leastAtOnePlace();
        oddBytes();
        endsInGroup();
        closesNothing();
        endsInClass();
        noSuchEscape();
        cutOffEscape();
        escapesOfNoCharacter();
        notInClass();
        fallingRanges();
        rangesToSets();
        noSuchName();
        noSuchLetter();
        nothingToRepeat();
        badTimes();
        noSuchGroup();
        takenNames();
        depth();
        numbered();
        probe.end();
    }

    /** Texts with a fault inside, whatever stands behind them: the text, its fault, the place in it. */
    private static final Object[][] WHOLE = {
        {")", 3, 0}, {"\\q", 5, 0}, {"\\x{110000}", 5, 0}, {"[b-a]", 6, 1}, {"[a-\\d]", 6, 1}, {"[[:x:]]", 7, 1},
        {"\\pX", 7, 0}, {"a**", 8, 2}, {"(?:|*)", 8, 4}, {"a{2,1}", 9, 1}, {"a{101}", 9, 1}, {"(?x)", 10, 0},
        {"(?P<n>)(?P<n>)", 11, 7}, {"(?:".repeat(31), 12, 90}, {"()".repeat(10), 13, 18}};

    private static void metFirst() {
        probe.says("FAULTS, the first that is met from left to right");
        for (Object[] one : WHOLE) {
            int fault = (Integer) one[1];
            int place = (Integer) one[2];
            probe.fails((String) one[0], fault, place);
            for (Object[] other : WHOLE) {
                probe.fails((String) one[0] + other[0], fault, place);
                probe.fails("z|" + one[0] + other[0], fault, place + 2);
            }
            // What the pattern's end tells is met last.
            String[] unfinished = {"(", "[", "\\", "(?", "[[:", "\\x{"};
            for (String end : unfinished) {
                probe.fails(one[0] + end, fault, place);
            }
            if (fault != 3 && fault != 12 && fault != 13) {
                probe.fails("(" + one[0], fault, place + 1);
            }
        }
        probe.fails(Probe.bytes('a', '*', '*', 0xFF), 0, 8, 2);
        probe.fails(Probe.bytes(0xFF, 'a', '*', '*'), 0, 1, 0);
        probe.fails(Probe.bytes('(', 0xFF), 0, 1, 1);
        probe.fails(Probe.bytes('[', 0xFF), 0, 1, 1);
        probe.fails(Probe.bytes('[', 'b', '-', 'a', 0xFF), 0, 6, 1);
        probe.fails("[b-a", 6, 1);
        probe.fails("[a\\q", 5, 2);
        probe.fails("[[:x", 7, 1);
        probe.fails("(\\", 5, 1);
        probe.fails("([", 4, 1);
        probe.fails("(?:(?", 10, 3);
    }

    private static void leastAtOnePlace() {
        probe.says("(at one place the least)");
        probe.fails("{2,1}", 8, 0);
        probe.fails("a*{101}", 8, 2);
        probe.fails("a|{101,}", 8, 2);
        probe.fails("(?i){2,1}", 8, 4);
        String thirty = "(?:".repeat(30);
        probe.fails(thirty + "(?x)", 10, 90);
        probe.fails("()".repeat(9) + "(?P<>)", 10, 18);
        probe.fails("(?P<n>)" + thirty + "(?P<n>)", 11, 97);
        probe.fails("(?P<n>)" + "()".repeat(8) + "(?P<n>)", 11, 23);
        probe.fails("()".repeat(9) + thirty + "()", 12, 108);
        probe.fails("(?P<n>)" + "()".repeat(8) + thirty + "(?P<n>)", 11, 113);
        probe.fails("(?P<n>)" + "()".repeat(8) + thirty + "(?P<m>)", 12, 113);
    }

    private static void oddBytes() {
        probe.says("1 an ODD byte: at it");
        probe.fails(Probe.bytes(0x80), 0, 1, 0);
        probe.fails(Probe.bytes('a', 0xC3, 0xA9, 0x80), 0, 1, 3);
        probe.fails(Probe.bytes('a', 0xC3, 'b'), 0, 1, 1);
        probe.fails(Probe.bytes('[', 'a', 0xC3, ']'), 0, 1, 2);
        probe.fails(Probe.bytes('[', 'a', '-', 0xC3, ']'), 0, 1, 3);
        probe.fails(Probe.bytes('a', '{', 0xFF), 0, 1, 2);
        probe.fails(Probe.bytes('(', '?', ':', 0xFF, ')'), 0, 1, 3);
        probe.fails(Probe.bytes('\\', 'd', 0xFF), 0, 1, 2);
    }

    private static void endsInGroup() {
        probe.says("2 the pattern ends in a group: at the ( of the innermost one");
        probe.fails("(", 2, 0);
        probe.fails("(a", 2, 0);
        probe.fails("a(b|", 2, 1);
        probe.fails("(?:", 2, 0);
        probe.fails("(?i:a", 2, 0);
        probe.fails("(?P<n>", 2, 0);
        probe.fails("((", 2, 1);
        probe.fails("(()", 2, 0);
        probe.fails("(a(b(c)d", 2, 2);
        probe.fails("(a(?i)", 2, 0);
        probe.fails("(\\)", 2, 0);
        probe.fails("([)]", 2, 0);
        probe.fails("a".repeat(399) + "(", 2, 399);
        probe.fails("(?:".repeat(30), 2, 87);
    }

    private static void closesNothing() {
        probe.says("3 a ) without a group: at it");
        probe.fails(")", 3, 0);
        probe.fails("())", 3, 2);
        probe.fails("a|b)", 3, 3);
        probe.fails("(?i))", 3, 4);
        probe.fails("[(])", 3, 3);
        probe.fails("\\()", 3, 2);
        probe.fails("a".repeat(399) + ")", 3, 399);
        probe.part("(?:)", 0, "group0(row0())", 0);
        probe.part("[)]", 0, "[41]", 6);
    }

    private static void endsInClass() {
        probe.says("4 the pattern ends in a class: at its [");
        String[] open = {"[", "[^", "[]", "[^]", "[a", "[a-", "[a-b", "[^-", "[[", "[\\]", "[\\d", "[[:digit:]", "[]a",
            "[a[", "[A-[", "[(", "[a)", "[*"};
        for (String text : open) {
            probe.fails(text, 4, 0);
            probe.fails("ab" + text, 4, 2);
            probe.fails("(" + text, 4, 1);
            probe.fails("[x]" + text, 4, 3);
        }
        probe.fails("a".repeat(399) + "[", 4, 399);
    }

    private static void noSuchEscape() {
        probe.says("5 no such escape: at its \\");
        String known = "AzbBCafnrtvxdswDSWpP";
        for (int c = 0; c < 128; c++) {
            String letter = String.valueOf((char) c);
            if ((Character.isLetterOrDigit(c) || c == '_') && known.indexOf(c) < 0) {
                probe.fails("\\" + letter, 5, 0);
                probe.fails("ab\\" + letter + "c", 5, 2);
                probe.fails("[a\\" + letter + "]", 5, 2);
                probe.fails("[a-\\" + letter + "]", 5, 3);
            }
        }
        probe.fails("\\x{110000}", 5, 0);
        probe.fails("\\xg", 5, 0);
        probe.fails("a[b-\\x{}]", 5, 4);
    }

    private static void cutOffEscape() {
        probe.says("(also one that the pattern's end cuts off)");
        String[] cut = {"\\", "\\x", "\\x4", "\\x{", "\\x{4", "\\x{10FFFF", "\\p", "\\P"};
        for (String text : cut) {
            probe.fails(text, 5, 0);
            probe.fails("a|" + text, 5, 2);
            probe.fails("(" + text, 5, 1);
            probe.fails("[" + text, 5, 1);
            probe.fails("[^a" + text, 5, 3);
            probe.fails("a".repeat(400 - text.length()) + text, 5, 400 - text.length());
        }
        probe.fails("[a-\\", 5, 3);
        probe.fails("[a-\\x", 5, 3);
        probe.fails("[a-\\x{4", 5, 3);
    }

    private static void escapesOfNoCharacter() {
        probe.says("one of what is no character below 128");
        probe.fails("\\\u0080", 5, 0);
        probe.fails("a\\\u00E9", 5, 1);
        probe.fails("[\\\uD83D\uDE00]", 5, 1);
        probe.fails(Probe.bytes('\\', 0x80), 0, 5, 0);
        probe.fails(Probe.bytes('a', '\\', 0xFF), 0, 5, 1);
        probe.part("\\\u007F", 0, "c127", 1);
    }

    private static void notInClass() {
        probe.says("\\A \\z \\b \\B \\C in a class");
        String[] letters = {"A", "z", "b", "B", "C"};
        for (String letter : letters) {
            probe.fails("[\\" + letter + "]", 5, 1);
            probe.fails("[^a\\" + letter, 5, 3);
            probe.fails("[a-\\" + letter + "]", 5, 3);
            probe.fails("[\\" + letter + "-z]", 5, 1);
            probe.due("out of a class", Probe.of("\\" + letter, 0).fault(0), 0);
        }
    }

    private static void fallingRanges() {
        probe.says("6 a range that ends below its beginning: at its beginning");
        probe.fails("[b-a]", 6, 1);
        probe.fails("[^b-a]", 6, 2);
        probe.fails("[a-cb-a]", 6, 4);
        probe.fails("x[]-A]", 6, 2);
        probe.fails("[a--]", 6, 1);
        probe.fails("[a-[b]", 6, 1);
        probe.fails("[\\x62-\\x61]", 6, 1);
        probe.fails("[\\x{10FFFF}-\\x{10FFFE}]", 6, 1);
        probe.fails("[\\x{1}-\\x{0}]", 6, 1);
        probe.fails("[\u00E9-\u00E8]", 6, 1);
        probe.fails("[\u00E9\u20AC-\u00E8]", 6, 3);
        probe.part("[b-b]", 0, "[98]", 6);
        // Also with i on, where B would be alike to b.
        probe.fails(Probe.utf8("[b-A]"), 1, 6, 1);
    }

    private static void rangesToSets() {
        probe.says("or whose end is \\d, \\s, \\w, \\p or one of those that are not, or a [ with : behind it");
        for (String set : SETS) {
            probe.fails("[!-" + set + "]", 6, 1);
            probe.fails("[^x!-" + set, 6, 3);
            probe.due("without a -", Probe.of("[!" + set + "]", 0).fault(0), 0);
            probe.due("a - ahead alone", Probe.of("[" + set + "-!]", 0).fault(0), 0);
        }
        String[] more = {"\\pX", "\\PX", "\\p", "\\P", "[:digit:]", "[:^digit:]", "[:x:]", "[:", "[:]"};
        for (String end : more) {
            probe.fails("[!-" + end + "]", 6, 1);
            probe.fails("[!-" + end, 6, 1);
        }
        probe.part("[!-[]", 0, "[33-91]", 6);
        probe.part("[!-[.]", 0, "[33-91]", 6);
        probe.part("[\\x{5a}-[=:]", 0, "[58 61 90-91]", 14);
    }

    private static void noSuchName() {
        probe.says("7 [: and no such name and :] (in a class; looked at when : stands behind [): at that [");
        String[] none = {"[:", "[::]", "[:]", "[:x:]", "[:digit", "[:digit]", "[:digit::]", "[:digits:]",
            "[:Digit:]", "[:DIGIT:]", "[:digi:]", "[: digit:]", "[:digit :]", "[:^", "[:^:]", "[:^^digit:]", "[:^x:]",
            "[:^digit", "[:^digit]", "[:alnum:]", "[:word:]", "[:xdigit:]", "[:ascii:]", "[:print:]", "[:graph:]",
            "[:cntrl:]", "[:blank:]", "[:d", "[:spac\u00E9:]"};
        for (String text : none) {
            probe.fails("[" + text + "]", 7, 1);
            probe.fails("[" + text, 7, 1);
            probe.fails("[^a" + text + "]", 7, 3);
            probe.fails("[[:space:]" + text + "]", 7, 10);
        }
        probe.fails(Probe.bytes('[', '[', ':', 0xFF, ':', ']', ']'), 0, 7, 1);
        probe.fails("[[:digit:", 7, 1);
        probe.fails("[[:^digit:", 7, 1);
        // Out of a class, or without the :, it is not looked at.
        probe.part("[:x:]", 0, "[58 120]", 10);
        probe.part("[:digit:]", 0, "[58 100 103 105 116]", 22);
        probe.part("[[x:]", 0, "[58 91 120]", 14);
        probe.part("[[.:]", 0, "[46 58 91]", 14);
        probe.part("[\\[:x:]", 0, "[58 91 120]", 14);
    }

    private static void noSuchLetter() {
        probe.says("7 \\p, \\P and no such letter: at the \\ (5 if the pattern ends there)");
        for (int b = 0; b < 256; b++) {
            boolean letter = b == 'L' || b == 'N' || b == 'G' || b == 'Y';
            if (!letter) {
                probe.fails(Probe.bytes('a', '\\', 'p', b), 0, 7, 1);
                probe.fails(Probe.bytes('a', '\\', 'P', b), 0, 7, 1);
                probe.fails(Probe.bytes('[', '\\', 'p', b, ']'), 0, 7, 1);
            } else {
                probe.due("\\p" + (char) b, Probe.of(Probe.bytes('\\', 'p', b), 0).fault(0), 0);
                probe.due("\\P" + (char) b, Probe.of(Probe.bytes('\\', 'P', b), 0).fault(0), 0);
            }
        }
        probe.fails("\\p{L}", 7, 0);
        probe.fails("\\p\u00E9", 7, 0);
        probe.fails("a\\p", 5, 1);
        probe.fails("a\\P", 5, 1);
        probe.fails("[\\p", 5, 1);
    }

    private static void nothingToRepeat() {
        probe.says("8 a repeat at the beginning of a row: at it");
        for (String repeat : REPEATS) {
            probe.fails(repeat, 8, 0);
            probe.fails("|" + repeat, 8, 1);
            probe.fails("a|" + repeat, 8, 2);
            probe.fails("(?:" + repeat, 8, 3);
            probe.fails("(?P<n>" + repeat, 8, 6);
            probe.fails("(a|" + repeat, 8, 3);
            probe.fails("a(?:" + repeat, 8, 4);
            probe.fails("(a)(?i:" + repeat, 8, 7);
            probe.fails("a*(?:" + repeat, 8, 5);
            // (? would begin another kind of group.
            if (!repeat.equals("?")) {
                probe.fails("(" + repeat, 8, 1);
                probe.fails("a(" + repeat, 8, 2);
            }
        }
        probe.says("8 a repeat behind (?flags): at it");
        for (String repeat : REPEATS) {
            probe.fails("(?)" + repeat, 8, 3);
            probe.fails("a(?i)" + repeat, 8, 5);
            probe.fails("a(?-i)" + repeat, 8, 6);
            probe.fails("(a(?i-m)" + repeat + ")", 8, 8);
            probe.due("behind a group", Probe.of("(?i:)" + repeat, 0).fault(0), 0);
        }
        probe.says("8 a repeat right behind a repeat: at it");
        for (String first : REPEATS) {
            for (String second : REPEATS) {
                // A ? behind the first one is its own.
                if (!second.equals("?")) {
                    probe.fails("a" + first + second, 8, 1 + first.length());
                }
                probe.fails("a" + first + "?" + second, 8, 2 + first.length());
                probe.due("not right behind", Probe.of("a" + first + "b" + second, 0).fault(0), 0);
                probe.due("with a group around", Probe.of("(?:a" + first + ")" + second, 0).fault(0), 0);
            }
        }
    }

    private static void badTimes() {
        probe.says("9 n above m: at the {");
        probe.fails("a{1,0}", 9, 1);
        probe.fails("ab{100,99}", 9, 2);
        probe.fails("ab{2,1}?", 9, 2);
        probe.fails("a{010,9}", 9, 1);
        probe.part("a{0,0}", 0, "greedy0,0(c97)", 0);
        probe.part("a{1,1}", 0, "greedy1,1(c97)", 1);
        probe.part("a{9,010}", 0, "greedy9,10(c97)", 11);
        probe.part("a{2,}", 0, "greedy2,-1(c97)", 4);

        probe.says("9 or one above 100: at the {");
        probe.fails("a{101}", 9, 1);
        probe.fails("a{101,}", 9, 1);
        probe.fails("a{0,101}", 9, 1);
        probe.fails("a{101,102}", 9, 1);
        probe.fails("ab{999,999}", 9, 2);
        probe.fails("ab{999}?", 9, 2);
        probe.part("a{100}", 0, "greedy100,100(c97)", 100);
        probe.part("a{100,}", 0, "greedy100,-1(c97)", 102);
        probe.part("a{0,100}", 0, "greedy0,100(c97)", 200);
        probe.part("a{100,100}?", 0, "lazy100,100(c97)", 100);
    }

    private static void noSuchGroup() {
        probe.says("10 (? and nothing that is told: at the (");
        String[] none = {"(?x)", "(?x:a)", "(?ix)", "(?i", "(?=a)", "(?!a)", "(?<n>a)", "(?<=a)", "(?>a)", "(?#a)",
            "(?'n'a)", "(?P=n)", "(?P>n)", "(?P'n'a)", "(?Pn)", "(?P<>a)", "(?P<n", "(?P<n)a)", "(?P<n:a)", "(?P<a b>)",
            "(?P<abcdefghijklm>)", "(?P <n>)", "(?p<n>)", "(? )", "(?*)", "(??)", "(?|a)", "(?()", "(?1)", "(?R)", "(?I)",
            "(?M:a)", "(?S)", "(?u)", "(?-)", "(?i-)", "(?i-:a)", "(?im s)"};
        for (String text : none) {
            probe.fails(text, 10, 0);
            probe.fails("a(?:b)" + text, 10, 6);
        }
        probe.fails(Probe.bytes('(', '?', 0xFF, ')'), 0, 10, 0);
        probe.fails(Probe.bytes('(', '?', 'P', '<', 0xFF, '>', ')'), 0, 10, 0);

        probe.says("10 (also cut off by the pattern's end)");
        String[] cut = {"(?", "(?i", "(?imsU", "(?-", "(?i-", "(?i-m", "(?P", "(?P<", "(?P<n", "(?P<abcdefghijkl"};
        for (String text : cut) {
            probe.fails(text, 10, 0);
            probe.fails("((" + text, 10, 2);
            probe.fails("a".repeat(400 - text.length()) + text, 10, 400 - text.length());
        }
    }

    private static void takenNames() {
        probe.says("11 a name that is there: at the (");
        probe.fails("(?P<n>)(?P<n>)", 11, 7);
        probe.fails("(?P<n>(?P<n>", 11, 6);
        probe.fails("(?P<a>)(?P<b>)(?P<c>)(?P<b>)", 11, 21);
        probe.fails("(?P<abcdefghijkl>)|(?P<abcdefghijkl>)", 11, 19);
        probe.fails("(?P<n>)" + "()".repeat(7) + "(?P<n>)", 11, 21);
        probe.reads("(?P<n>)(?P<N>)", 0, "row2(group1(row0()) group2(row0()))", 4);
        probe.reads("(?P<n>)(?P<nn>)", 0, "row2(group1(row0()) group2(row0()))", 4);
        probe.reads("(?P<nn>)(?P<n>)", 0, "row2(group1(row0()) group2(row0()))", 4);
        probe.reads("(?P<abcdefghijkl>)(?P<abcdefghijkm>)", 0, "row2(group1(row0()) group2(row0()))", 4);
        probe.reads("()(?P<n>)()", 0, "row3(group1(row0()) group2(row0()) group3(row0()))", 6);
        PatternNodes x = Probe.of("(?P<n>)", 0);
        Probe.putAll(x, Probe.utf8("(?P<n>)"));
        probe.due("a name of an earlier read is not there", Probe.readOrRefuse(x, 0), 1);
        Probe.putAll(x, Probe.utf8("(?P<m>)("));
        probe.due("a fault", Probe.readOrRefuse(x, 0), -1);
        Probe.putAll(x, Probe.utf8("(?P<m>)"));
        probe.due("nor one of a faulty pattern", Probe.readOrRefuse(x, 0), 1);
    }

    private static void depth() {
        probe.says("12 more than 30 groups within one another (of any kind but (?flags)): at the (");
        String thirty = "(?:".repeat(30);
        String closed = ")".repeat(30);
        probe.due("thirty", Probe.of(thirty + closed, 0).count(0), 61);
        probe.due("thirty twice", Probe.of(thirty + closed + thirty + closed, 0).count(0), 121);
        String[] more = {"(?:", "(?i:", "(", "(?P<n>"};
        for (String opening : more) {
            probe.fails(thirty + opening + ")" + closed, 12, 90);
            probe.fails(thirty + opening, 12, 90);
            probe.fails(thirty + "a)" + opening + "(?:", 12, 92 + opening.length());
        }
        probe.due("(?flags) in thirty", Probe.of(thirty + "(?i)b" + closed, 0).fault(0), 0);
        probe.due("a (?flags) in each", Probe.of("(?:(?i)".repeat(30) + closed, 0).fault(0), 0);
        probe.fails("(?:(?i)".repeat(30) + "(?:", 12, 210);
        probe.fails("(".repeat(9) + "(?:".repeat(22), 12, 9 + 63);
        probe.fails("(?s:".repeat(31), 12, 120);
        probe.due("one behind the other", Probe.of("(?:)".repeat(100), 0).count(0), 201);
        PatternNodes x = Probe.of(thirty + "(", 0);
        Probe.putAll(x, Probe.utf8(thirty + closed));
        probe.due("behind a fault the depth is 0 again", Probe.readOrRefuse(x, 0), 0);
    }

    private static void numbered() {
        probe.says("13 more than 9 numbered: at the (");
        probe.due("nine", Probe.of("()".repeat(9), 0).fault(0), 0);
        probe.fails("()".repeat(10), 13, 18);
        probe.fails("(".repeat(10), 13, 9);
        probe.fails("()".repeat(9) + "(?P<n>)", 13, 18);
        probe.fails("(?P<n>)" + "()".repeat(9), 13, 23);
        probe.due("and some without a number", Probe.of("()".repeat(9) + "(?:)(?i)(?m:)", 0).fault(0), 0);
        probe.due("only without a number", Probe.of("(?:)".repeat(12), 0).fault(0), 0);
        PatternNodes x = Probe.of("()".repeat(9), 0);
        Probe.putAll(x, Probe.utf8("()"));
        probe.due("each pattern counts anew", Probe.readOrRefuse(x, 0), 1);
    }
}
