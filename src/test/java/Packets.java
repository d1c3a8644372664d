import java.util.Arrays;

/** Makes packets with right checksums and hands them to a translator. */
final class Packets {
    static final int OWN = address(198, 51, 100, 1);
    static final int HOST = address(10, 0, 0, 5);
    static final int OTHER_HOST = address(10, 0, 0, 9);
    static final int SERVER = address(8, 8, 8, 8);
    static final int OTHER_SERVER = address(203, 0, 113, 7);

    static final int FIN = 1;
    static final int SYN = 2;
    static final int RST = 4;
    static final int ACK = 16;

    static final int REQUEST = 2048;
    static final int REPLY = 0;

    private Packets() {
    }

    static int address(int a, int b, int c, int d) {
        return a << 24 | b << 16 | c << 8 | d;
    }

    static int[] udp(int from, int fromPort, int to, int toPort, int... data) {
        int[] w = header(17, from, to, 14 + data.length);
        w[10] = fromPort;
        w[11] = toPort;
        w[12] = 2 * (w.length - 10);
        System.arraycopy(data, 0, w, 14, data.length);
        // Any word but 0 says that there is a checksum; seal writes the right one.
        w[13] = 1;
        return seal(w);
    }

    static int[] udpWithoutChecksum(int from, int fromPort, int to, int toPort, int... data) {
        int[] w = udp(from, fromPort, to, toPort, data);
        w[13] = 0;
        return w;
    }

    static int[] tcp(int from, int fromPort, int to, int toPort, int flags, int... data) {
        int[] w = header(6, from, to, 20 + data.length);
        w[10] = fromPort;
        w[11] = toPort;
        w[13] = 7;
        w[15] = 11;
        w[16] = 5 << 12 | flags;
        w[17] = 8192;
        System.arraycopy(data, 0, w, 20, data.length);
        return seal(w);
    }

    static int[] echo(int type, int from, int to, int port, int... data) {
        int[] w = header(1, from, to, 14 + data.length);
        w[10] = type;
        w[12] = port;
        w[13] = 3;
        System.arraycopy(data, 0, w, 14, data.length);
        return seal(w);
    }

    /** An error about another packet, of which it holds the first 14 words. */
    static int[] error(int type, int from, int to, int[] about) {
        int[] w = header(1, from, to, 28);
        w[10] = type << 8 | 1;
        System.arraycopy(about, 0, w, 14, 14);
        return seal(w);
    }

    private static int[] header(int kind, int from, int to, int size) {
        int[] w = new int[size];
        w[0] = 69 << 8;
        w[1] = 2 * size;
        w[2] = 4321;
        w[3] = 16384;
        w[4] = 64 << 8 | kind;
        w[6] = from >>> 16;
        w[7] = from & 65535;
        w[8] = to >>> 16;
        w[9] = to & 65535;
        return w;
    }

    /** The packet with one word changed, and all checksums right again. */
    static int[] with(int[] packet, int i, int word) {
        int[] w = packet.clone();
        w[i] = word;
        return seal(w);
    }

    /** The packet with one word changed and nothing else. */
    static int[] broken(int[] packet, int i, int word) {
        int[] w = packet.clone();
        w[i] = word;
        return w;
    }

    /** The packet with fewer or more words, all its lengths and checksums right. */
    static int[] resized(int[] packet, int size) {
        int[] w = Arrays.copyOf(packet, size);
        w[1] = 2 * size;
        if ((w[4] & 255) == 17 && size > 12) {
            w[12] = 2 * (size - 10);
        }
        return seal(w);
    }

    /** Writes the checksums of a packet anew, as far as it is long enough to have them. */
    static int[] seal(int[] w) {
        w[5] = 65535 - sum(w, 0, 10, 5, 0);
        int kind = w[4] & 255;
        int pseudo = kind + 2 * (w.length - 10);
        if (kind == 6 && w.length > 18) {
            w[18] = 65535 - sum(w, 6, w.length, 18, pseudo);
        } else if (kind == 17 && w.length > 13 && w[13] != 0) {
            int c = 65535 - sum(w, 6, w.length, 13, pseudo);
            w[13] = c == 0 ? 65535 : c;
        } else if (kind == 1 && w.length > 11) {
            w[11] = 65535 - sum(w, 10, w.length, 11, 0);
        }
        return w;
    }

    /** The sum of some words but one, and of a number more. */
    static int sum(int[] w, int start, int end, int without, int more) {
        int sum = more;
        for (int i = start; i < end; i++) {
            if (i != without) {
                sum += w[i];
            }
        }
        while (sum > 65535) {
            sum = sum % 65536 + sum / 65536;
        }
        return sum;
    }

    /** A checksum of the other packet, for words that became others: was, is, was, is, .. */
    static int adjusted(int c, int... wasIs) {
        int sum = 65535 - c;
        for (int i = 0; i < wasIs.length; i += 2) {
            sum += 65535 - wasIs[i] + wasIs[i + 1];
        }
        while (sum > 65535) {
            sum = sum % 65536 + sum / 65536;
        }
        return 65535 - sum;
    }

    static void feed(PortTranslator x, int[] words) {
        int i = 0;
        while (i < words.length) {
            int n = Math.min(4, words.length - i);
            long bits = 0;
            for (int j = 0; j < n; j++) {
                bits = bits << 16 | words[i + j];
            }
            x.put(n, bits);
            i += n;
        }
    }

    static int route(PortTranslator x, boolean out, int[] words) {
        feed(x, words);
        return x.route(out);
    }

    static int[] latest(PortTranslator x) {
        int[] w = new int[x.length()];
        for (int i = 0; i < w.length; i++) {
            w[i] = x.at(i);
        }
        return w;
    }

    /** Whether the packet that was routed latest is this one, but for a time that is one less. */
    static void dueLatest(Check check, String what, PortTranslator x, int[] want) {
        int[] due = seal(broken(want, 4, want[4] - 256));
        int[] got = latest(x);
        check.due(what + ": length()", got.length, due.length);
        for (int i = 0; i < Math.min(got.length, due.length); i++) {
            check.due(what + ": at(" + i + ")", got[i], due[i]);
        }
    }
}
