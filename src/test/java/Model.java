import java.util.ArrayList;
import java.util.List;

/**
 * The document once more, told as plainly as can be and word by word, to compare the class with.
 * It shares nothing with the class and is not meant to be quick.
 */
final class Model {
    static final int OWN = -969710591;

    /** A flow is a list of what flow(k, which) answers. */
    final List<int[]> flows = new ArrayList<>();
    final List<Integer> draft = new ArrayList<>();
    int[] latest = {};
    /** A rule is its kind, network, bits, and 1 if it permits; null if there is none. */
    final int[][] rules = new int[4][];
    /** How often each way through the document was taken, so that a test can tell. */
    final java.util.Map<String, Integer> ways = new java.util.TreeMap<>();

    boolean put(int n, long words) {
        if (n < 1 || n > 4 || draft.size() + n > 48) {
            return false;
        }
        for (int i = n - 1; i >= 0; i--) {
            draft.add((int) ((words >> (16 * i)) & 0xffff));
        }
        return true;
    }

    int route(boolean out) {
        int[] w = draft.stream().mapToInt(Integer::intValue).toArray();
        draft.clear();
        int answer = malformed(w) ? 1 : w[4] / 256 < 2 ? 3 : out ? out(w) : in(w);
        if (answer == 0) {
            finish(w);
            latest = w;
        }
        ways.merge((out ? "out " : "in ") + answer + (answer == 0 ? subject(w) : ""), 1, Integer::sum);
        return answer;
    }

    private static String subject(int[] w) {
        int kind = w[4] & 255;
        return " of kind " + kind + (isError(w) ? ", error about kind " + (w[18] & 255) : "");
    }

    static long sum(long... words) {
        long sum = 0;
        for (long word : words) {
            sum += word;
        }
        while (sum > 65535) {
            sum = sum % 65536 + sum / 65536;
        }
        return sum;
    }

    private static long[] words(int[] w, int start, int end, long... more) {
        long[] some = new long[end - start + more.length];
        for (int i = start; i < end; i++) {
            some[i - start] = w[i];
        }
        System.arraycopy(more, 0, some, end - start, more.length);
        return some;
    }

    private static long bodySum(int[] w) {
        int n = w.length;
        switch (w[4] & 255) {
            case 6:
                return sum(words(w, 10, n, w[6], w[7], w[8], w[9], 6, 2 * (n - 10)));
            case 17:
                return sum(words(w, 10, n, w[6], w[7], w[8], w[9], 17, w[12]));
            default:
                return sum(words(w, 10, n));
        }
    }

    private static boolean malformed(int[] w) {
        int n = w.length;
        if (n < 10 || w[0] / 256 != 69 || w[1] != 2 * n || (w[3] & 49151) != 0) {
            return true;
        }
        if (sum(words(w, 0, 10)) != 65535) {
            return true;
        }
        switch (w[4] & 255) {
            case 6:
                return n < 20 || w[16] / 4096 != 5 || bodySum(w) != 65535;
            case 17:
                return n < 14 || w[12] != 2 * (n - 10) || w[13] != 0 && bodySum(w) != 65535;
            case 1:
                if (n < 14 || bodySum(w) != 65535) {
                    return true;
                }
                if (w[10] == 2048 || w[10] == 0) {
                    return false;
                }
                if (w[10] / 256 != 3 && w[10] / 256 != 11) {
                    return true;
                }
                return n < 28 || w[14] / 256 != 69
                        || (w[18] & 255) != 6 && (w[18] & 255) != 17 && (w[18] & 255) != 1;
            default:
                return true;
        }
    }

    private static boolean isError(int[] w) {
        return (w[4] & 255) == 1 && w[10] != 2048 && w[10] != 0;
    }

    private static int address(int[] w, int i) {
        return w[i] * 65536 + w[i + 1];
    }

    private static boolean inside(int a) {
        return a >= 167772160 && a <= 167772415;
    }

    private static boolean outside(int a) {
        return !inside(a) && a != OWN;
    }

    private int[] byInner(int kind, int inner, int innerPort, int outer, int outerPort) {
        for (int[] f : flows) {
            if (f[0] == kind && f[1] == inner && f[2] == innerPort && f[3] == outer && f[4] == outerPort) {
                return f;
            }
        }
        return null;
    }

    private int[] byOwn(int kind, int ownPort, int outer, int outerPort) {
        for (int[] f : flows) {
            if (f[0] == kind && f[5] == ownPort && f[3] == outer && f[4] == outerPort) {
                return f;
            }
        }
        return null;
    }

    private int out(int[] w) {
        int kind = w[4] & 255;
        int from = address(w, 6);
        int to = address(w, 8);
        if (!inside(from) || !outside(to)) {
            return 5;
        }
        if (isError(w)) {
            return errorOut(w, from);
        }
        int fromPort = kind == 1 ? w[12] : w[10];
        int toPort = kind == 1 ? 0 : w[11];
        int[] f = byInner(kind, from, fromPort, to, toPort);
        if (f == null) {
            if (kind == 1 && w[10] == 0) {
                return 5;
            }
            if (kind == 6 && !((w[16] & 2) != 0 && (w[16] & 16) == 0 && (w[16] & 4) == 0)) {
                return 5;
            }
            if (!permitted(kind, to)) {
                return 5;
            }
            int port = flows.size() == 12 ? -1 : portFor(kind, from, fromPort);
            if (port == -1) {
                return 6;
            }
            f = new int[] {kind, from, fromPort, to, toPort, port, 0, 0};
            flows.add(f);
        }
        w[6] = OWN >>> 16;
        w[7] = OWN & 65535;
        w[kind == 1 ? 12 : 10] = f[5];
        f[6] = 0;
        if (kind == 6) {
            f[7] |= (w[16] & 1) != 0 ? 2 : 0;
            if ((w[16] & 4) != 0) {
                flows.remove(f);
            }
        }
        return 0;
    }

    private int portFor(int kind, int inner, int innerPort) {
        for (int[] f : flows) {
            if (f[0] == kind && f[1] == inner && f[2] == innerPort) {
                return f[5];
            }
        }
        for (int port = 40000; port <= 40005; port++) {
            int p = port;
            if (flows.stream().noneMatch(f -> f[0] == kind && f[5] == p)) {
                return port;
            }
        }
        return -1;
    }

    private boolean permitted(int kind, int outer) {
        for (int[] r : rules) {
            if (r != null && (r[0] == 0 || r[0] == kind)) {
                boolean within = true;
                for (int bit = 0; bit < r[2]; bit++) {
                    within &= (outer >> (31 - bit) & 1) == (r[1] >> (31 - bit) & 1);
                }
                if (within) {
                    return r[3] == 1;
                }
            }
        }
        return true;
    }

    private int errorOut(int[] w, int from) {
        int kind = w[18] & 255;
        int[] f = kind == 1
                ? byInner(1, address(w, 22), w[26], address(w, 20), 0)
                : byInner(kind, address(w, 22), w[25], address(w, 20), w[24]);
        if (f == null || f[1] != from) {
            return 5;
        }
        w[6] = OWN >>> 16;
        w[7] = OWN & 65535;
        changeOther(w, 22, kind == 1 ? 26 : 25, OWN, f[5]);
        return 0;
    }

    private int in(int[] w) {
        int kind = w[4] & 255;
        if (address(w, 8) != OWN || !outside(address(w, 6))) {
            return 5;
        }
        if (isError(w)) {
            return errorIn(w);
        }
        int[] f = kind == 1 ? byOwn(1, w[12], address(w, 6), 0) : byOwn(kind, w[11], address(w, 6), w[10]);
        if (f == null || kind == 1 && w[10] == 2048) {
            return 5;
        }
        w[8] = f[1] >>> 16;
        w[9] = f[1] & 65535;
        w[kind == 1 ? 12 : 11] = f[2];
        f[6] = 0;
        if (kind == 6) {
            f[7] |= (w[16] & 2) != 0 && (w[16] & 16) != 0 ? 1 : 0;
            f[7] |= (w[16] & 1) != 0 ? 4 : 0;
            if ((w[16] & 4) != 0) {
                flows.remove(f);
            }
        }
        return 0;
    }

    private int errorIn(int[] w) {
        int kind = w[18] & 255;
        if (address(w, 20) != OWN) {
            return 5;
        }
        int[] f = kind == 1
                ? byOwn(1, w[26], address(w, 22), 0)
                : byOwn(kind, w[24], address(w, 22), w[25]);
        if (f == null) {
            return 5;
        }
        w[8] = f[1] >>> 16;
        w[9] = f[1] & 65535;
        changeOther(w, 20, kind == 1 ? 26 : 24, f[1], f[2]);
        return 0;
    }

    private static void changeOther(int[] w, int a, int p, int address, int port) {
        int kind = w[18] & 255;
        int high = address >>> 16;
        int low = address & 65535;
        w[19] = (int) (65535 - sum(65535 - w[19], 65535 - w[a], high, 65535 - w[a + 1], low));
        if (kind == 17 && w[27] != 0) {
            w[27] = (int) (65535 - sum(65535 - w[27], 65535 - w[a], high, 65535 - w[a + 1], low,
                    65535 - w[p], port));
        }
        if (kind == 1) {
            w[25] = (int) (65535 - sum(65535 - w[25], 65535 - w[p], port));
        }
        w[a] = high;
        w[a + 1] = low;
        w[p] = port;
    }

    private static void finish(int[] w) {
        int kind = w[4] & 255;
        w[4] = (w[4] / 256 - 1) * 256 + kind;
        w[5] = (int) (65535 - sum(w[0], w[1], w[2], w[3], w[4], w[6], w[7], w[8], w[9]));
        int c = kind == 6 ? 18 : kind == 17 ? 13 : 11;
        if (kind == 17 && w[c] == 0) {
            return;
        }
        w[c] = 0;
        w[c] = (int) (65535 - bodySum(w));
        if (kind == 17 && w[c] == 0) {
            w[c] = 65535;
        }
    }

    int tick(int n) {
        int before = flows.size();
        for (int[] f : flows) {
            f[6] += n;
        }
        flows.removeIf(f -> f[6] > life(f));
        return before - flows.size();
    }

    private static int life(int[] f) {
        if (f[0] == 1) {
            return 6;
        }
        if (f[0] == 17) {
            return 30;
        }
        boolean back = (f[7] & 1) != 0;
        boolean bothFins = (f[7] & 2) != 0 && (f[7] & 4) != 0;
        return back && !bothFins ? 100 : 12;
    }

    int ruleCount() {
        int n = 0;
        for (int[] r : rules) {
            n += r != null ? 1 : 0;
        }
        return n;
    }

    int bindings(int kind) {
        return (int) flows.stream().filter(f -> f[0] == kind)
                .map(f -> (f[1] & 0xffffffffL) << 16 | f[2]).distinct().count();
    }
}
