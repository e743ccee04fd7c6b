import java.io.ByteArrayOutputStream;
import java.util.Arrays;
import java.util.Random;

/** All promises: patterns by a fixed seed; what must hold of every tree, whatever its pattern. */
public final class RandomTest {
    private static final Probe probe = new Probe("random");
    private static final String[] PIECES = {
        "a", "k", "S", "0", "_", "-", "]", "[", "[^", "(", ")", "|", "*", "+", "?", "{", "}", ",", ".", "^", "$",
        "{2}", "{0}", "{1,2}", "{3,}", "{100}", "{101}", "(?:", "(?i)", "(?-i)", "(?i:", "(?s)", "(?U)", "(?",
        "(?P<", "(?P<a>", "(?P<b>", "[a-z]", "[^a-k]", "[:", "[:digit:]", "[[:^alpha:]]", "\\", "\\A", "\\b", "\\C",
        "\\n", "\\x", "\\x41", "\\x{", "\\x{E5}", "\\x{D7FF}-\\x{E000}", "\\d", "\\W", "\\pL", "\\PL", "\\p", "\\.",
        "\u00E9", "\u03C2", "\u0451", "\u20AC", "\uD83D\uDE00", "(a)", "(?:b|c)", "a*", "b+?"};

    public static void main(String[] args) {
        Random random = new Random(20261115);
        Renewed x = new Renewed();
        for (int run = 0; run < 60000; run++) {
            byte[] pattern = somePattern(random);
            int groups = x.read(pattern, random.nextInt(16));
            if (groups == -1) {
                checkFault(x, run);
            } else {
                checkTree(x, run, groups);
            }
        }
        probe.end();
    }

    private static byte[] somePattern(Random random) {
        ByteArrayOutputStream out = new ByteArrayOutputStream();
        int many = 1 + random.nextInt(random.nextInt(8) == 0 ? 200 : 8);
        for (int k = 0; k < many; k++) {
            if (random.nextInt(300) == 0) {
                out.write(random.nextInt(256));
            } else {
                out.writeBytes(Probe.utf8(PIECES[random.nextInt(PIECES.length)]));
            }
        }
        byte[] all = out.toByteArray();
        return Arrays.copyOf(all, Math.min(all.length, 400));
    }

    private static void checkFault(Renewed x, int run) {
        probe.due("run " + run + ": a fault is 1 .. 13", x.fault(0) >= 1 && x.fault(0) <= 13, true);
        probe.due("run " + run + ": a place is 0 .. 399", x.fault(1) >= 0 && x.fault(1) < 400, true);
        probe.due("run " + run + ": nodes, groups, bytes", x.count(0) + x.count(1) + x.count(2), 0);
        probe.due("run " + run + ": no node", x.node(0, 0), -1);
    }

    private static void checkTree(Renewed x, int run, int groups) {
        int nodes = x.count(0);
        long[] sums = new long[nodes];
        int[] own = new int[nodes];
        int numbered = 0;
        for (int i = 0; i < nodes; i++) {
            String which = "run " + run + ": node " + i;
            int owner = x.node(i, 3);
            probe.due(which + " is of a later one", i == nodes - 1 ? owner == -1 : owner > i && owner < nodes, true);
            probe.due(which + " has of its own", own[i], ownOf(x, i));
            probe.due(which + " size", x.node(i, 4), Math.min(1000000, sizeOf(x, i, sums[i])));
            checkRanges(x, i, which);
            numbered += x.node(i, 0) == 6 && x.node(i, 1) > 0 ? 1 : 0;
            if (owner > i && owner < nodes) {
                own[owner]++;
                sums[owner] += x.node(i, 4);
            }
        }
        probe.due("run " + run + ": numbered", numbered, groups);
        probe.due("run " + run + ": fault", x.fault(0), 0);
        probe.due("run " + run + ": bytes", x.count(2), 0);
    }

    private static int ownOf(Renewed x, int i) {
        int kind = x.node(i, 0);
        if (kind < 4) {
            return 0;
        }
        return kind < 6 ? x.node(i, 1) : 1;
    }

    private static long sizeOf(Renewed x, int i, long sum) {
        int value = x.node(i, 1);
        int most = x.node(i, 2);
        switch (x.node(i, 0)) {
            case 1: return 2 + 4 * x.node(i, 5);
            case 4: return sum;
            case 5: return sum + value - 1;
            case 6: return value > 0 ? sum + 2 : sum;
            case 7: case 8: return most == -1 ? value * sum + sum + 1 : most * sum + most - value;
            default: return 1;
        }
    }

    private static void checkRanges(Renewed x, int i, String which) {
        int many = x.node(i, 5);
        probe.due(which + " has ranges as a class alone", many >= 0 && (x.node(i, 0) == 1 || many == 0), true);
        int last = -2;
        for (int k = 0; k < many; k++) {
            int begin = x.range(i, k, 0);
            int end = x.range(i, k, 1);
            boolean inPlace = begin > last + 1 && begin <= end && end <= 1114111;
            boolean characters = end < 55296 || begin > 57343;
            probe.due(which + " range " + k, inPlace && characters, true);
            last = end;
        }
        probe.due(which + " has no range more", x.range(i, many, 0), -1);
    }
}
