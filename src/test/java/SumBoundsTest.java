import java.util.Arrays;

/** The boundaries of "Terms" about sums: when a sum is carried, when words agree, what is written. */
final class SumBoundsTest {
    private static final int HOST = Packets.HOST;
    private static final int OWN = Packets.OWN;
    /** Two large words, so that the words of a header are above 65535 more than once. */
    private static final int FAR = -2;
    private static final int[] KINDS = {6, 17, 1};
    /** What a sum may be after one carry: the last two that stay, the first two that are carried again. */
    private static final int[] CARRIED_ONCE = {65534, 65535, 65536, 65537};
    private static final int[] SUMS = {65534, 65535, 1, 2};

    private final Check check = new Check();

    private SumBoundsTest() {
    }

    public static void main(String[] args) {
        SumBoundsTest test = new SumBoundsTest();
        for (int kind : KINDS) {
            test.headerAgrees(kind);
            test.bodyAgrees(kind);
            test.headerChecksumIsWritten(kind);
            test.bodyChecksumIsWritten(kind);
        }
        test.sumsBelowTheFirstCarry();
        test.sumOf0DoesNotAgree();
        test.udpChecksum0IsNone();
        test.udpChecksumIsNeverWrittenAs0();
        test.check.end();
    }

    /** What takes part in a checksum, without the checksum itself. */
    private interface Total {
        int of(int[] words);
    }

    private static int headerTotal(int[] w) {
        int total = 0;
        for (int i = 0; i < 10; i++) {
            total += i == 5 ? 0 : w[i];
        }
        return total;
    }

    private static int bodyTotal(int[] w) {
        int kind = w[4] & 255;
        int total = kind == 1 ? 0 : w[6] + w[7] + w[8] + w[9] + kind + 2 * (w.length - 10);
        for (int i = 10; i < w.length; i++) {
            total += i == checksumOf(kind) ? 0 : w[i];
        }
        return total;
    }

    private static int checksumOf(int kind) {
        return kind == 6 ? 18 : kind == 17 ? 13 : 11;
    }

    private static int[] packet(boolean out, int kind) {
        int from = out ? HOST : FAR;
        int to = out ? FAR : OWN;
        int near = out ? 5000 : 40000;
        return kind == 6 ? Packets.tcp(from, out ? near : 7, to, out ? 7 : near, Packets.SYN, 0, 65535, 65535)
                : kind == 17 ? Packets.udp(from, out ? near : 7, to, out ? 7 : near, 0, 65535, 65535)
                : Packets.echo(out ? Packets.REQUEST : Packets.REPLY, from, to, near, 0, 65535, 65535);
    }

    /** The packet as it goes on, but for its checksums. */
    private static int[] routed(boolean out, int[] packet) {
        int[] w = packet.clone();
        int kind = w[4] & 255;
        int address = out ? OWN : HOST;
        w[4] -= 256;
        w[out ? 6 : 8] = address >>> 16;
        w[out ? 7 : 9] = address & 65535;
        w[kind == 1 ? 12 : out ? 10 : 11] = out ? 40000 : 5000;
        return w;
    }

    /** The packet with the word at i that makes its total come to this after one carry. */
    private int[] found(int[] packet, int i, Total total, int carriedOnce) {
        for (int word = 0; word < 65536; word++) {
            int[] w = Packets.with(packet, i, word);
            int plain = total.of(w);
            if (plain % 65536 + plain / 65536 == carriedOnce) {
                return w;
            }
        }
        throw new AssertionError("no word makes the sum " + carriedOnce);
    }

    private PortTranslator withFlow(int kind) {
        PortTranslator x = new PortTranslator();
        check.due("the flow", Packets.route(x, true, packet(true, kind)), 0);
        return x;
    }

    /** Words AGREE if their sum is 65535; w0 .. w9 agree (w5 is their checksum). */
    private void headerAgrees(int kind) {
        for (int k = 0; k < SUMS.length; k++) {
            for (boolean out : new boolean[] {true, false}) {
                int[] w = found(packet(out, kind), 2, SumBoundsTest::headerTotal, CARRIED_ONCE[k]);
                takenWith("header of kind " + kind, out, w, 5, SUMS[k], false);
            }
        }
    }

    /** The body agrees. */
    private void bodyAgrees(int kind) {
        for (int k = 0; k < SUMS.length; k++) {
            for (boolean out : new boolean[] {true, false}) {
                int[] w = found(packet(out, kind), w(kind), SumBoundsTest::bodyTotal, CARRIED_ONCE[k]);
                takenWith("body of kind " + kind, out, w, checksumOf(kind), SUMS[k], kind == 17);
            }
        }
    }

    /** A word of the body that may be anything. */
    private static int w(int kind) {
        return kind == 17 ? 14 : 13;
    }

    /** Of the checksums near the right one, and near both ends, only those that agree are taken. */
    private void takenWith(String what, boolean out, int[] packet, int i, int sum, boolean zeroIsNone) {
        int kind = packet[4] & 255;
        Twins flow = new Twins(check, x -> Packets.route(x, true, packet(true, kind)));
        int right = 65535 - sum;
        for (int c : new int[] {right - 1, right, right + 1, 0, 1, 65534, 65535}) {
            if (c >= 0 && c <= 65535) {
                // 65535 adds nothing to a sum that is not 0, so it is as good as 0.
                boolean agrees = c == right || sum == 65535 && c == 65535;
                flow.due(what + " with the sum " + sum + " and the checksum " + c, out,
                        Packets.broken(packet, i, c), agrees || zeroIsNone && c == 0 ? 0 : 1);
            }
        }
    }

    /** A CHECKSUM is written as 65535 - the sum of the other words that it is for. */
    private void headerChecksumIsWritten(int kind) {
        for (int k = 0; k < SUMS.length; k++) {
            for (boolean out : new boolean[] {true, false}) {
                int[] w = found(packet(out, kind), 2, r -> headerTotal(routed(out, r)), CARRIED_ONCE[k]);
                PortTranslator x = withFlow(kind);
                check.due("kind " + kind, Packets.route(x, out, w), 0);
                check.due("at(5) for the sum " + SUMS[k], x.at(5), 65535 - SUMS[k]);
            }
        }
    }

    private void bodyChecksumIsWritten(int kind) {
        int i = checksumOf(kind);
        for (int k = 0; k < SUMS.length; k++) {
            for (boolean out : new boolean[] {true, false}) {
                int[] w = found(packet(out, kind), w(kind), r -> bodyTotal(routed(out, r)), CARRIED_ONCE[k]);
                PortTranslator x = withFlow(kind);
                check.due("kind " + kind, Packets.route(x, out, w), 0);
                int due = kind == 17 && SUMS[k] == 65535 ? 65535 : 65535 - SUMS[k];
                check.due("at(" + i + ") for the sum " + SUMS[k], x.at(i), due);
            }
        }
    }

    /** A sum of 65535 at most is not carried at all; a body of kind 1 can have so small a one. */
    private void sumsBelowTheFirstCarry() {
        int[] data = {0, 65535 - 2048 - 40000 - 2, 65535 - 2048 - 40000 - 1, 65535 - 2048 - 40000,
            65535 - 2048 - 40000 + 1};
        int[] checksums = {65535 - 2048 - 40000, 2, 1, 0, 65534};
        for (int k = 0; k < data.length; k++) {
            PortTranslator x = new PortTranslator();
            int[] w = Packets.with(Packets.echo(Packets.REQUEST, HOST, FAR, 5000), 13, data[k]);
            check.due("ECHO with " + data[k], Packets.route(x, true, w), 0);
            check.due("at(11)", x.at(11), checksums[k]);
            check.due("its twin in", Packets.route(x, false,
                    Packets.with(Packets.echo(Packets.REPLY, FAR, OWN, 40000), 13, data[k])), 0);
        }
    }

    /** Words whose sum is 0 do not agree, though 0 and 65535 are often one. */
    private void sumOf0DoesNotAgree() {
        int[] none = Packets.echo(Packets.REPLY, HOST, FAR, 0);
        Arrays.fill(none, 10, 14, 0);
        Twins port0 = new Twins(check, x -> Packets.route(x, true, Packets.echo(Packets.REQUEST, HOST, FAR, 0)));
        port0.due("a body of 0 alone", true, none, 1);
        port0.due("a body of 0 with the checksum 65535", true, Packets.broken(none, 11, 65535), 0);
        port0.due("a body of 0 with the checksum 65534", true, Packets.broken(none, 11, 65534), 1);
        port0.due("a body of 0 with the checksum 1", true, Packets.broken(none, 11, 1), 1);
        Twins fresh = new Twins(check, Scenes::fresh);
        fresh.due("ten words 0", true, new int[10], 1);
        fresh.due("48 words 0", true, new int[48], 1);
        // In a routed packet such a body can only come about by the inner port 0.
        PortTranslator x = port0.made();
        int[] back = Packets.with(Packets.echo(Packets.REPLY, FAR, OWN, 40000), 13, 0);
        check.due("in to port 0", Packets.route(x, false, back), 0);
        check.due("at(11) for the sum 0", x.at(11), 65535);
    }

    /** If w13 is not 0, the body agrees; the checksum is written anew only if it was not 0. */
    private void udpChecksum0IsNone() {
        Twins flow = new Twins(check, Scenes::oneOfEach);
        int[][] packets = {Scenes.udpOut(1, 2), Scenes.udpIn(1, 2)};
        for (int k = 0; k < 2; k++) {
            boolean out = k == 0;
            int[] none = Packets.broken(packets[k], 13, 0);
            flow.due("w13 is 0", out, none, 0);
            flow.due("w13 is 0 and other data", out, Packets.broken(none, 15, 3), 0);
            flow.due("w13 is 1", out, Packets.broken(none, 13, 1), 1);
            flow.due("w13 is 65535", out, Packets.broken(none, 13, 65535), 1);
            PortTranslator x = flow.made();
            Packets.route(x, out, none);
            check.due("at(13) where there was none", x.at(13), 0);
        }
    }

    /** w13 is the checksum, which is written as 65535 instead of 0. */
    private void udpChecksumIsNeverWrittenAs0() {
        for (boolean out : new boolean[] {true, false}) {
            int[] w = found(packet(out, 17), 14, r -> bodyTotal(routed(out, r)), 65535);
            PortTranslator x = withFlow(17);
            check.due("UDP", Packets.route(x, out, w), 0);
            check.due("at(13) that would be 0", x.at(13), 65535);
            // What was written must be taken where it goes next.
            check.due("the body agrees", Packets.sum(Packets.latest(x), 6, w.length, -1, 17 + w[12]), 65535);
        }
    }
}
