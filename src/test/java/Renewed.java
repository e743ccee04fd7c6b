/** The class under test for as many calls as a test likes: a new object takes over at the 512th call. */
final class Renewed {
    private static final int MOST_CALLS = 512;

    private PatternNodes object = new PatternNodes();
    private int calls = 0;
    private byte[] pattern = {};
    private int flags = 0;

    /** Puts the pattern and reads it: what read() answers, or -1 where it throws. */
    int read(byte[] newPattern, int newFlags) {
        pattern = newPattern;
        flags = newFlags;
        int puts = (pattern.length + 7) / 8;
        if (calls + puts + 1 > MOST_CALLS) {
            object = new PatternNodes();
            calls = 0;
        }
        calls += puts + 1;
        Probe.putAll(object, pattern);
        return Probe.readOrRefuse(object, flags);
    }

    private PatternNodes forOneCall() {
        if (calls >= MOST_CALLS) {
            read(pattern, flags);
        }
        calls++;
        return object;
    }

    int fault(int what) {
        return forOneCall().fault(what);
    }

    int count(int what) {
        return forOneCall().count(what);
    }

    int node(int i, int what) {
        return forOneCall().node(i, what);
    }

    int range(int i, int k, int which) {
        return forOneCall().range(i, k, which);
    }
}
