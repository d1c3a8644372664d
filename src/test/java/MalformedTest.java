import java.util.Arrays;

/** Promise 4: what makes a draft malformed, and the time that it needs. */
final class MalformedTest {
    private static final int[] UDP = Packets.udp(Packets.HOST, 5000, Packets.SERVER, 53, 9, 8);
    private static final int[] TCP = Packets.tcp(Packets.HOST, 5000, Packets.SERVER, 80, Packets.SYN);
    private static final int[] ECHO = Packets.echo(Packets.REQUEST, Packets.HOST, Packets.SERVER, 77);
    private static final int[] BACK = Packets.udp(Packets.SERVER, 53, Packets.HOST, 5000, 9, 8);
    private static final int[] ERROR = Packets.error(3, Packets.HOST, Packets.SERVER, BACK);

    private final Check check = new Check();

    private MalformedTest() {
    }

    public static void main(String[] args) {
        MalformedTest test = new MalformedTest();
        test.headers();
        test.everyWordCounts();
        test.tcp();
        test.udp();
        test.icmp();
        test.errors();
        test.times();
        test.wordsOfBeforeDoNotCount();
        test.nothingElseChanges();
        test.check.end();
    }

    /** The answer of a new object that has the flow of UDP, as errors about it need one. */
    private void due(String what, int[] packet, int want) {
        PortTranslator x = new PortTranslator();
        Packets.route(x, true, UDP);
        check.due(what, Packets.route(x, true, packet), want);
    }

    private void headers() {
        due("a right packet", UDP, 0);
        for (int size = 0; size < 14; size++) {
            int[] cut = size < 10 ? Arrays.copyOf(UDP, size) : Packets.resized(UDP, size);
            due(size + " words", cut, 1);
        }
        due("version 5, 5", Packets.with(UDP, 0, 0x5500), 1);
        due("version 4, 6", Packets.with(UDP, 0, 0x4600), 1);
        due("version 4, 5 and service 255", Packets.with(UDP, 0, 0x45ff), 0);
        due("a length too small", Packets.with(UDP, 1, 2 * UDP.length - 2), 1);
        due("a length that is odd", Packets.with(UDP, 1, 2 * UDP.length + 1), 1);
        due("a length too large", Packets.with(UDP, 1, 2 * UDP.length + 2), 1);
        for (int bit = 0; bit < 16; bit++) {
            due("w3 with bit " + bit, Packets.with(UDP, 3, 1 << bit), bit == 14 ? 0 : 1);
        }
        due("w3 is 0", Packets.with(UDP, 3, 0), 0);
        for (int kind = 0; kind < 256; kind++) {
            if (kind != 6 && kind != 17 && kind != 1) {
                due("kind " + kind, Packets.with(UDP, 4, 64 << 8 | kind), 1);
            }
        }
        due("w5 not the checksum", Packets.broken(UDP, 5, UDP[5] ^ 1), 1);
    }

    private void everyWordCounts() {
        for (int[] packet : new int[][] {UDP, TCP, ECHO, ERROR}) {
            for (int i = 0; i < packet.length; i++) {
                due("kind " + (packet[4] & 255) + " with w" + i + " broken",
                        Packets.broken(packet, i, packet[i] ^ 256), 1);
            }
        }
    }

    private void tcp() {
        due("TCP", TCP, 0);
        due("TCP of 21 words", Packets.resized(TCP, 21), 0);
        due("TCP of 19 words", Packets.resized(TCP, 19), 1);
        due("TCP with w16 / 4096 4", Packets.with(TCP, 16, 4 << 12 | Packets.SYN), 1);
        due("TCP with w16 / 4096 6", Packets.with(TCP, 16, 6 << 12 | Packets.SYN), 1);
        due("TCP with other bits of w16", Packets.with(TCP, 16, 5 << 12 | 0xfe8 | Packets.SYN), 0);
        due("TCP with checksum 0", Packets.broken(TCP, 18, 0), 1);
    }

    private void udp() {
        int[] none = Packets.udpWithoutChecksum(Packets.HOST, 1, Packets.SERVER, 2, 3, 4);
        due("UDP without a checksum", none, 0);
        due("UDP without a checksum, with another word", Packets.broken(none, 15, 5), 0);
        due("UDP of 14 words", Packets.udp(Packets.HOST, 5000, Packets.SERVER, 53), 0);
        due("UDP with w12 too small", Packets.with(UDP, 12, UDP[12] - 2), 1);
        due("UDP with w12 too large", Packets.with(UDP, 12, UDP[12] + 1), 1);
        due("UDP without a checksum and w12 wrong", Packets.broken(none, 12, none[12] + 2), 1);
        due("UDP with a wrong checksum", Packets.broken(UDP, 13, UDP[13] ^ 1), 1);
    }

    private void icmp() {
        due("ECHO", ECHO, 0);
        due("ECHO of 13 words", Packets.resized(ECHO, 13), 1);
        due("ECHO of 48 words", Packets.resized(ECHO, 48), 0);
        for (int type = 0; type < 256; type++) {
            if (type != 0 && type != 3 && type != 8 && type != 11) {
                due("ICMP of type " + type, Packets.with(ERROR, 10, type << 8), 1);
            }
        }
        due("w10 is 2049", Packets.with(ECHO, 10, 2049), 1);
        due("w10 is 2047", Packets.with(ECHO, 10, 2047), 1);
        due("w10 is 1", Packets.with(ECHO, 10, 1), 1);
        due("w10 is 0, with no flow", Packets.with(ECHO, 10, 0), 5);
        int[] zeros = ECHO.clone();
        Arrays.fill(zeros, 10, zeros.length, 0);
        due("a body of words 0, whose sum is 0", zeros, 1);
        due("a body of words 0 but for the checksum", Packets.seal(zeros), 5);
    }

    private void errors() {
        due("an error", ERROR, 0);
        due("an error of type 11", Packets.with(ERROR, 10, 11 << 8), 0);
        due("an error of type 3 and code 255", Packets.with(ERROR, 10, 3 << 8 | 255), 0);
        due("an error of 27 words", Packets.resized(ERROR, 27), 1);
        due("an error of 48 words", Packets.resized(ERROR, 48), 0);
        due("another packet with w14 / 256 70", Packets.with(ERROR, 14, 70 << 8), 1);
        due("another packet with service 255", Packets.with(ERROR, 14, 69 << 8 | 255), 0);
        for (int kind = 0; kind < 256; kind++) {
            boolean known = kind == 6 || kind == 17 || kind == 1;
            int want = kind == 17 ? 0 : known ? 5 : 1;
            due("another packet of kind " + kind, Packets.with(ERROR, 18, 9 << 8 | kind), want);
        }
        due("another packet with a wrong length", Packets.with(ERROR, 15, 1), 0);
        due("another packet with a wrong checksum", Packets.with(ERROR, 19, 1), 0);
        due("another packet with time 0", Packets.with(ERROR, 18, 17), 0);
        due("another packet in fragments", Packets.with(ERROR, 17, 8191), 0);
    }

    private void times() {
        for (int[] packet : new int[][] {UDP, TCP, ECHO, ERROR}) {
            int kind = packet[4] & 255;
            due("time 0", Packets.with(packet, 4, kind), 3);
            due("time 1", Packets.with(packet, 4, 1 << 8 | kind), 3);
            due("time 2", Packets.with(packet, 4, 2 << 8 | kind), 0);
            due("time 255", Packets.with(packet, 4, 255 << 8 | kind), 0);
        }
        due("time 1, malformed", Packets.broken(Packets.with(UDP, 4, 1 << 8 | 17), 10, 1), 1);
        due("time 1, from outside", Packets.with(BACK, 4, 1 << 8 | 17), 3);
    }

    /** A draft that is too short stays so, whatever an earlier one had behind its end. */
    private void wordsOfBeforeDoNotCount() {
        check.due("UDP of 13 words, on a new object",
                Packets.route(new PortTranslator(), true, Packets.resized(UDP, 13)), 1);
        int[][] packets = {UDP, TCP, ECHO, ERROR};
        int[] least = {14, 20, 14, 28};
        for (int k = 0; k < packets.length; k++) {
            PortTranslator x = new PortTranslator();
            Packets.route(x, true, UDP);
            Packets.route(x, true, packets[k]);
            Packets.feed(x, packets[k]);
            x.scrap();
            check.due("the first " + (least[k] - 1) + " words",
                    Packets.route(x, true, Arrays.copyOf(packets[k], least[k] - 1)), 1);
            Packets.feed(x, packets[k]);
            x.scrap();
            check.due((least[k] - 1) + " words",
                    Packets.route(x, true, Packets.resized(packets[k], least[k] - 1)), 1);
        }
    }

    private void nothingElseChanges() {
        PortTranslator x = new PortTranslator();
        Packets.route(x, true, UDP);
        int[] before = Packets.latest(x);
        Packets.route(x, true, Packets.broken(TCP, 5, 0));
        Packets.route(x, true, Packets.with(TCP, 4, 1 << 8 | 6));
        check.due("flows()", x.flows(), 1);
        check.due("what was routed stays", Arrays.equals(before, Packets.latest(x)), true);
        check.due("the draft is empty", x.route(true), 1);
    }
}
