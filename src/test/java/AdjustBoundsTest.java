/** The boundaries of adjusting the checksums of an error's other packet. */
final class AdjustBoundsTest {
    private static final int HOST = Packets.HOST;
    private static final int SERVER = Packets.SERVER;
    private static final int OWN = Packets.OWN;
    private static final int[] KINDS = {6, 17, 1};
    private static final int[] CHECKSUMS = {0, 1, 2, 32767, 32768, 65533, 65534, 65535};

    private final Check check = new Check();

    private AdjustBoundsTest() {
    }

    public static void main(String[] args) {
        AdjustBoundsTest test = new AdjustBoundsTest();
        for (boolean out : new boolean[] {true, false}) {
            for (int kind : KINDS) {
                test.onlyTheseWordsChange(out, kind);
                test.headerChecksumOfEveryForm(out, kind);
                test.carriedOnceAndTwice(out, kind, 19);
            }
            test.udpChecksumOfEveryForm(out);
            test.udpChecksum0StaysSo(out);
            test.udpChecksumMayBecome0(out);
            test.echoChecksumOfEveryForm(out);
            test.carriedOnceAndTwice(out, 17, 27);
            test.carriedOnceAndTwice(out, 1, 25);
        }
        test.portsAtTheirEnds();
        test.check.end();
    }

    private static int[] error(boolean out, int kind) {
        return out ? Scenes.errorOut(kind) : Scenes.errorIn(kind);
    }

    private PortTranslator routed(boolean out, int[] error) {
        PortTranslator x = new PortTranslator();
        Scenes.oneOfEach(x);
        check.due("an error about kind " + (error[18] & 255), Packets.route(x, out, error), 0);
        return x;
    }

    private static int innerPort(int kind) {
        return kind == 6 ? 6000 : kind == 17 ? 5000 : 77;
    }

    /** What a checksum is due to become: by the words of the address, of the port, or of both. */
    private static int adjusted(boolean out, int kind, int i, int c) {
        int was = out ? HOST : OWN;
        int is = out ? OWN : HOST;
        int wasPort = out ? innerPort(kind) : 40000;
        int isPort = out ? 40000 : innerPort(kind);
        int[] address = {was >>> 16, is >>> 16, was & 65535, is & 65535};
        return i == 19 ? Packets.adjusted(c, address)
                : i == 25 ? Packets.adjusted(c, wasPort, isPort)
                : Packets.adjusted(c, address[0], address[1], address[2], address[3], wasPort, isPort);
    }

    /** Of an error only the address changes, and of the other packet, OUT its to, IN its from .. */
    private void onlyTheseWordsChange(boolean out, int kind) {
        int[] error = Packets.resized(error(out, kind), 48);
        for (int i = 28; i < 48; i++) {
            error[i] = 1000 * i;
        }
        Packets.seal(error);
        int[] due = error.clone();
        due[out ? 6 : 8] = (out ? OWN : HOST) >>> 16;
        due[out ? 7 : 9] = (out ? OWN : HOST) & 65535;
        due[out ? 22 : 20] = (out ? OWN : HOST) >>> 16;
        due[out ? 23 : 21] = (out ? OWN : HOST) & 65535;
        due[kind == 1 ? 26 : out ? 25 : 24] = out ? 40000 : innerPort(kind);
        due[19] = adjusted(out, kind, 19, error[19]);
        if (kind != 6) {
            int i = kind == 17 ? 27 : 25;
            due[i] = adjusted(out, kind, i, error[i]);
        }
        Packets.dueLatest(check, "an error about kind " + kind, routed(out, error), due);
    }

    private void dueAdjusted(boolean out, int kind, int i, int c) {
        int[] error = Packets.with(error(out, kind), i, c);
        PortTranslator x = routed(out, error);
        check.due("at(" + i + ") that was " + c, x.at(i), adjusted(out, kind, i, c));
        check.due("the body agrees", Packets.sum(Packets.latest(x), 10, 28, -1, 0), 65535);
    }

    /** w19 for the address. */
    private void headerChecksumOfEveryForm(boolean out, int kind) {
        for (int c : CHECKSUMS) {
            dueAdjusted(out, kind, 19, c);
        }
    }

    /** Of kind 17 w27 if it is not 0, for the address and the port. */
    private void udpChecksumOfEveryForm(boolean out) {
        for (int c : CHECKSUMS) {
            if (c != 0) {
                dueAdjusted(out, 17, 27, c);
            }
        }
    }

    private void udpChecksum0StaysSo(boolean out) {
        PortTranslator x = routed(out, Packets.with(error(out, 17), 27, 0));
        check.due("at(27) that was 0", x.at(27), 0);
        check.due("at(19) then", x.at(19), adjusted(out, 17, 19, error(out, 17)[19]));
    }

    /** 65535 instead of 0 is said of w13, not of w27. */
    private void udpChecksumMayBecome0(boolean out) {
        int before = -1;
        for (int c = 1; c < 65536; c++) {
            if (adjusted(out, 17, 27, c) == 0) {
                before = c;
            }
        }
        PortTranslator x = routed(out, Packets.with(error(out, 17), 27, before));
        check.due("at(27) that becomes 0", x.at(27), 0);
        dueAdjusted(out, 17, 27, before - 1);
        dueAdjusted(out, 17, 27, before + 1);
    }

    /** Of kind 1 w25, for the port; 0 is adjusted like any other. */
    private void echoChecksumOfEveryForm(boolean out) {
        for (int c : CHECKSUMS) {
            dueAdjusted(out, 1, 25, c);
        }
    }

    /** The sum is carried as long as it is above 65535, here as everywhere. */
    private void carriedOnceAndTwice(boolean out, int kind, int i) {
        for (int want : new int[] {65534, 65535, 1, 2}) {
            for (int c = 1; c < 65536; c++) {
                if (adjusted(out, kind, i, c) == 65535 - want) {
                    dueAdjusted(out, kind, i, c);
                }
            }
        }
    }

    /** A port that becomes 0, or 65535, or was it. */
    private void portsAtTheirEnds() {
        for (int kind : new int[] {17, 1}) {
            for (int port : new int[] {0, 1, 39999, 40000, 40001, 65534, 65535}) {
                PortTranslator x = new PortTranslator();
                Packets.route(x, true, Scenes.first(kind, HOST, port, SERVER, 9));
                int[] sent = Scenes.first(kind, OWN, 40000, SERVER, 9);
                check.due("in", Packets.route(x, false, Packets.error(3, SERVER, OWN, sent)), 0);
                Packets.dueLatest(check, "about port " + port, x, Packets.error(3, SERVER, HOST,
                        other(kind, sent, adjustedFor(kind, sent, OWN, 40000, HOST, port), HOST, port, 6, 10)));
                int[] got = Scenes.answer(kind, SERVER, 9, HOST, port);
                check.due("out", Packets.route(x, true, Packets.error(3, HOST, SERVER, got)), 0);
                Packets.dueLatest(check, "about port " + port, x, Packets.error(3, OWN, SERVER,
                        other(kind, got, adjustedFor(kind, got, HOST, port, OWN, 40000), OWN, 40000, 8, 11)));
            }
        }
    }

    private static int[] adjustedFor(int kind, int[] w, int was, int wasPort, int is, int isPort) {
        int header = Packets.adjusted(w[5], was >>> 16, is >>> 16, was & 65535, is & 65535);
        int body = kind == 1 ? Packets.adjusted(w[11], wasPort, isPort)
                : Packets.adjusted(w[13], was >>> 16, is >>> 16, was & 65535, is & 65535, wasPort, isPort);
        return new int[] {header, body};
    }

    /** The other packet with another end, which begins at that word and has its port at that one. */
    private static int[] other(int kind, int[] packet, int[] checksums, int address, int port, int a, int p) {
        int[] w = packet.clone();
        w[a] = address >>> 16;
        w[a + 1] = address & 65535;
        w[kind == 1 ? 12 : p] = port;
        w[5] = checksums[0];
        w[kind == 1 ? 11 : 13] = checksums[1];
        return w;
    }
}
