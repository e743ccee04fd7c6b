import java.nio.charset.StandardCharsets;

/** What the tests share: patterns as texts, trees as texts, and the count of wrong answers. */
final class Probe {
    private static final int MOST_TOLD = 200;

    private final String title;
    private String sentence = "";
    private int sentences = 0;
    private int askedBefore = 0;
    private int asked = 0;
    private int wrong = 0;

    Probe(String title) {
        this.title = title;
    }

    /** The words of the document that the answers from here on are held against. */
    void says(String words) {
        endSentence();
        sentence = words;
        sentences++;
        askedBefore = asked;
    }

    // A sentence that nothing was asked about would look as if it held.
    private void endSentence() {
        if (sentences > 0 && asked == askedBefore) {
            tellWrong("nothing was asked");
        }
    }

    private void tellWrong(String what) {
        wrong++;
        if (wrong <= MOST_TOLD) {
            System.out.println(title + (sentences > 0 ? " '" + sentence + "'" : "") + ": " + what);
        }
    }

    void due(String call, long got, long want) {
        asked++;
        if (got != want) {
            tellWrong(call + " answered " + got + ", due is " + want);
        }
    }

    void due(String call, String got, String want) {
        asked++;
        if (!got.equals(want)) {
            tellWrong(call + " answered " + got + ", due is " + want);
        }
    }

    void due(String call, boolean got, boolean want) {
        due(call, got ? 1 : 0, want ? 1 : 0);
    }

    void end() {
        endSentence();
        System.out.println(title + ": " + (sentences > 0 ? sentences + " sentences, " : "")
            + asked + " answers, " + wrong + " wrong");
        if (wrong != 0) {
            System.exit(1);
        }
    }

    static byte[] bytes(int... values) {
        byte[] out = new byte[values.length];
        for (int k = 0; k < values.length; k++) {
            out[k] = (byte) values[k];
        }
        return out;
    }

    static byte[] utf8(String text) {
        return text.getBytes(StandardCharsets.UTF_8);
    }

    /** Puts bytes, up to eight a call; false as soon as a call answers so. */
    static boolean putAll(PatternNodes x, byte[] bytes) {
        for (int k = 0; k < bytes.length; k += 8) {
            long v = 0;
            int n = Math.min(8, bytes.length - k);
            for (int j = 0; j < n; j++) {
                v = v << 8 | bytes[k + j] & 255;
            }
            if (!x.put(v, n)) {
                return false;
            }
        }
        return true;
    }

    /** What read() answers, or -1 where it throws IllegalArgumentException. */
    static int readOrRefuse(PatternNodes x, int flags) {
        try {
            return x.read(flags);
        } catch (IllegalArgumentException e) {
            return -1;
        }
    }

    static PatternNodes of(byte[] pattern, int flags) {
        PatternNodes x = new PatternNodes();
        if (!putAll(x, pattern)) {
            throw new IllegalStateException("put refused the pattern of a test");
        }
        readOrRefuse(x, flags);
        return x;
    }

    static PatternNodes of(String pattern, int flags) {
        return of(utf8(pattern), flags);
    }

    /** The pattern has this fault at this place, and nothing is left of it. */
    void fails(byte[] pattern, int flags, int fault, int place) {
        PatternNodes x = new PatternNodes();
        String call = "'" + new String(pattern, StandardCharsets.UTF_8) + "' flags " + flags + " ";
        due(call + "put", putAll(x, pattern), true);
        due(call + "read", readOrRefuse(x, flags), -1);
        due(call + "fault(0)", x.fault(0), fault);
        due(call + "fault(1)", x.fault(1), place);
        due(call + "count(0)", x.count(0), 0);
        due(call + "count(1)", x.count(1), 0);
        due(call + "count(2)", x.count(2), 0);
        due(call + "node(0, 0)", x.node(0, 0), -1);
        due(call + "name(1, 0)", x.name(1, 0), -1);
    }

    void fails(String pattern, int fault, int place) {
        fails(utf8(pattern), 0, fault, place);
    }

    /** The pattern has no fault; its tree, its size. */
    void reads(String pattern, int flags, String tree, int size) {
        PatternNodes x = of(pattern, flags);
        String call = "'" + pattern + "' flags " + flags + " ";
        due(call + "fault(0)", x.fault(0), 0);
        due(call + "fault(1)", x.fault(1), -1);
        due(call + "tree", tree(x), tree);
        due(call + "size", x.node(x.count(0) - 1, 4), size);
    }

    /** The pattern is one part; its tree without the row around it, its size. */
    void part(String pattern, int flags, String part, int size) {
        reads(pattern, flags, "row1(" + part + ")", size);
    }

    /** The nodes one behind the other as a text, each behind its own. */
    static String tree(PatternNodes x) {
        int nodes = x.count(0);
        String[] texts = new String[nodes];
        String[] own = new String[nodes];
        for (int i = 0; i < nodes; i++) {
            String inner = own[i] == null ? "" : own[i];
            texts[i] = text(x, i, inner);
            int owner = x.node(i, 3);
            if (owner == -1) {
                continue;
            }
            if (owner <= i || owner >= nodes) {
                return "node " + i + " is of " + owner;
            }
            own[owner] = own[owner] == null ? texts[i] : own[owner] + " " + texts[i];
        }
        return nodes == 0 ? "" : texts[nodes - 1];
    }

    private static String text(PatternNodes x, int i, String own) {
        int value = x.node(i, 1);
        switch (x.node(i, 0)) {
            case 0: return "c" + value;
            case 1: return ranges(x, i);
            case 2: return "byte";
            case 3: return "at" + value;
            case 4: return "row" + value + "(" + own + ")";
            case 5: return "alt" + value + "(" + own + ")";
            case 6: return "group" + value + "(" + own + ")";
            case 7: return "greedy" + value + "," + x.node(i, 2) + "(" + own + ")";
            case 8: return "lazy" + value + "," + x.node(i, 2) + "(" + own + ")";
            default: return "kind" + x.node(i, 0);
        }
    }

    static String ranges(PatternNodes x, int i) {
        StringBuilder out = new StringBuilder("[");
        for (int k = 0; k < x.node(i, 5); k++) {
            int begin = x.range(i, k, 0);
            int end = x.range(i, k, 1);
            out.append(k > 0 ? " " : "").append(begin);
            if (end != begin) {
                out.append('-').append(end);
            }
        }
        return out.append(']').toString();
    }
}
