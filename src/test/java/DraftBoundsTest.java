import java.util.Arrays;

/** The boundaries of "Terms" about the draft: each sentence that makes it malformed, on both sides. */
final class DraftBoundsTest {
    private static final int[] UDP = Scenes.udpOut(9, 8);
    private static final int[] TCP = Scenes.tcpOut(Packets.SYN);
    private static final int[] ECHO = Scenes.echoOut(Packets.REQUEST);
    private static final int[] ERROR = Scenes.errorOut(17);
    private static final int[][] OUT = {UDP, TCP, ECHO, ERROR, Scenes.errorOut(6), Scenes.errorOut(1)};
    private static final int[][] IN = {Scenes.udpIn(9, 8), Scenes.tcpIn(Packets.ACK),
        Scenes.echoIn(Packets.REPLY), Scenes.errorIn(17), Scenes.errorIn(6), Scenes.errorIn(1)};

    private final Check check = new Check();
    private final Twins fresh = new Twins(check, Scenes::fresh);
    private final Twins flows = new Twins(check, Scenes::oneOfEach);
    private final Twins busy = new Twins(check, Scenes::busy);

    private DraftBoundsTest() {
    }

    public static void main(String[] args) {
        DraftBoundsTest test = new DraftBoundsTest();
        test.atMost48Words();
        test.tenWordsOrMore();
        test.versionIs69();
        test.lengthIsTwiceTheWords();
        test.fragmentsAreMalformed();
        test.kindIs6Or17Or1();
        test.tcpHas20WordsOrMore();
        test.tcpOffsetIs5();
        test.udpHas14WordsOrMore();
        test.udpLengthIsThatOfTheBody();
        test.icmpHas14WordsOrMore();
        test.icmpIsEchoOrError();
        test.errorHas28WordsOrMore();
        test.otherPacketHasVersion69();
        test.otherPacketIsOfKind6Or17Or1();
        test.check.end();
    }

    /** The same word changed in packets of all forms, both ways. */
    private void dueOfAll(String what, int i, int word, int want) {
        for (int k = 0; k < OUT.length; k++) {
            flows.due(what + ", out " + k, true, Packets.with(OUT[k], i, word), want);
            flows.due(what + ", in " + k, false, Packets.with(IN[k], i, word), want);
        }
    }

    /** THE DRAFT is a packet of at most 48 words. */
    private void atMost48Words() {
        for (int[] packet : OUT) {
            int[] longest = Packets.resized(packet, 48);
            for (int begun = 44; begun <= 48; begun++) {
                for (int n = 1; n <= 4; n++) {
                    if (begun + n > 48) {
                        flows.dueFalse("put(" + n + ", ..) behind " + begun + " words", longest, begun, n, -1);
                    } else {
                        fits(longest, begun, n);
                    }
                }
            }
            flows.due("48 words", true, longest, 0);
            flows.due("47 words", true, Packets.resized(packet, 47), 0);
        }
    }

    private void fits(int[] longest, int begun, int n) {
        PortTranslator x = flows.made();
        Packets.feed(x, Arrays.copyOf(longest, begun));
        long bits = 0;
        for (int j = 0; j < n; j++) {
            bits = bits << 16 | longest[begun + j];
        }
        check.due("put(" + n + ", ..) behind " + begun + " words", x.put(n, bits), true);
        Packets.feed(x, Arrays.copyOfRange(longest, begun + n, 48));
        check.due("route(true) of 48 words", x.route(true), 0);
        check.due("length()", x.length(), 48);
    }

    /** There are 10 or more; fewer are malformed, whatever an earlier draft had behind them. */
    private void tenWordsOrMore() {
        for (int k = 0; k < OUT.length; k++) {
            for (int size = 0; size <= 13; size++) {
                int[] cut = Arrays.copyOf(OUT[k], size);
                if (size > 1) {
                    cut[1] = 2 * size;
                }
                if (size >= 10) {
                    Packets.seal(cut);
                } else if (size > 5) {
                    // With the words of the earlier draft behind it, it would agree.
                    int[] whole = Packets.with(OUT[k], 1, 2 * size);
                    cut = Arrays.copyOf(whole, size);
                }
                busy.dueBothWays(size + " words", cut, 1);
                afterAnother(k, cut);
            }
        }
    }

    private void afterAnother(int k, int[] cut) {
        Twins scrapped = new Twins(check, x -> {
            Scenes.busy(x);
            Packets.feed(x, Packets.with(OUT[k], 1, 2 * cut.length));
            x.scrap();
        });
        scrapped.due(cut.length + " words after a longer draft", true, cut, 1);
    }

    /** w0 / 256 is 69. */
    private void versionIs69() {
        dueOfAll("w0 is 69 * 256", 0, 17664, 0);
        dueOfAll("w0 is 70 * 256 - 1", 0, 17919, 0);
        for (int word : new int[] {0, 69, 17663, 17920, 17408, 65535, 17664 ^ 32768}) {
            dueOfAll("w0 is " + word, 0, word, 1);
        }
    }

    /** w1 is 2 * how many they are. */
    private void lengthIsTwiceTheWords() {
        for (int k = 0; k < OUT.length; k++) {
            int right = 2 * OUT[k].length;
            for (int word : new int[] {right - 2, right - 1, right, right + 1, right + 2, OUT[k].length,
                right | 256, 0, 65535}) {
                int[] changed = Packets.with(OUT[k], 1, word);
                flows.due("w1 is " + word + " of " + right, true, changed, word == right ? 0 : 1);
            }
            int[] longer = Arrays.copyOf(OUT[k], OUT[k].length + 1);
            flows.due("one word behind the length", true, longer, 1);
        }
    }

    /** w3 & 49151 is 0. */
    private void fragmentsAreMalformed() {
        dueOfAll("w3 is 0", 3, 0, 0);
        dueOfAll("w3 is 16384", 3, 16384, 0);
        for (int bit = 0; bit < 16; bit++) {
            if (bit != 14) {
                dueOfAll("w3 is bit " + bit, 3, 1 << bit, 1);
                dueOfAll("w3 is bits 14 and " + bit, 3, 1 << 14 | 1 << bit, 1);
            }
        }
        dueOfAll("w3 is 49151", 3, 49151, 1);
        dueOfAll("w3 is 65535", 3, 65535, 1);
    }

    /** w4 & 255 its KIND: 6, 17 or 1. */
    private void kindIs6Or17Or1() {
        for (int[] packet : new int[][] {UDP, TCP, ECHO, ERROR}) {
            flows.due("the kind " + (packet[4] & 255), true, packet, 0);
            for (int kind : new int[] {0, 2, 3, 5, 7, 8, 16, 18, 22, 23, 49, 70, 129, 134, 145, 254, 255}) {
                int[] other = Packets.with(packet, 4, 64 << 8 | kind);
                flows.due("kind " + kind, true, other, 1);
                flows.due("kind " + kind + ", summed up as such", true, summedUp(other, packet[4] & 255), 1);
            }
        }
    }

    /** The packet with a body that agrees for its own kind, where the form of another one has the checksum. */
    private static int[] summedUp(int[] packet, int form) {
        int[] w = packet.clone();
        int i = form == 6 ? 18 : form == 17 ? 13 : 11;
        int more = form == 1 ? 0 : (w[4] & 255) + 2 * (w.length - 10);
        w[i] = 65535 - Packets.sum(w, form == 1 ? 10 : 6, w.length, i, more);
        return w;
    }

    private void dueFrom(String what, int[] out, int[] in, int least) {
        for (int size = least - 2; size < least; size++) {
            flows.due(what + " of " + size + " words, out", true, Packets.resized(out, size), 1);
            flows.due(what + " of " + size + " words, in", false, Packets.resized(in, size), 1);
            int cut = size;
            Twins before = new Twins(check, x -> {
                Scenes.oneOfEach(x);
                Packets.feed(x, Packets.resized(out, 48));
                x.scrap();
            });
            before.due(what + " of " + cut + " words after a longer draft", true, Packets.resized(out, cut), 1);
        }
        for (int size = least; size <= 48; size++) {
            flows.due(what + " of " + size + " words, out", true, Packets.resized(out, size), 0);
            flows.due(what + " of " + size + " words, in", false, Packets.resized(in, size), 0);
        }
    }

    /** 6 (TCP): 20 words or more. */
    private void tcpHas20WordsOrMore() {
        dueFrom("TCP", TCP, IN[1], 20);
    }

    /** w16 / 4096 is 5. */
    private void tcpOffsetIs5() {
        for (int word : new int[] {5 << 12, 6 * 4096 - 1, 5 << 12 | Packets.ACK}) {
            flows.due("w16 is " + word + ", out", true, Packets.with(TCP, 16, word), 0);
            flows.due("w16 is " + word + ", in", false, Packets.with(IN[1], 16, word), 0);
        }
        for (int word : new int[] {5 * 4096 - 1, 6 * 4096, 4 << 12 | Packets.SYN, 6 << 12 | Packets.SYN,
            13 << 12 | Packets.SYN, 7 << 12 | Packets.SYN, 1 << 12 | Packets.SYN, Packets.SYN, 65535}) {
            flows.due("w16 is " + word + ", out", true, Packets.with(TCP, 16, word), 1);
            flows.due("w16 is " + word + ", in", false, Packets.with(IN[1], 16, word), 1);
        }
    }

    /** 17 (UDP): 14 words or more. */
    private void udpHas14WordsOrMore() {
        dueFrom("UDP", UDP, IN[0], 14);
        int[] none = Packets.broken(UDP, 13, 0);
        dueFrom("UDP without a checksum", none, Packets.broken(IN[0], 13, 0), 14);
    }

    /** w12 is 2 * how many words the body has. */
    private void udpLengthIsThatOfTheBody() {
        for (int size : new int[] {14, 15, 48}) {
            int[] whole = Packets.resized(UDP, size);
            int right = 2 * (size - 10);
            for (int word : new int[] {right - 2, right - 1, right, right + 1, right + 2, size - 10, 2 * size,
                right | 256, 0, 65535}) {
                int want = word == right ? 0 : 1;
                int[] w = Packets.with(whole, 12, word);
                flows.due("w12 is " + word, true, w, want);
                // Once more with a body that agrees with w12 itself instead of the true length.
                w[13] = 65535 - Packets.sum(w, 6, size, 13, 17 + word);
                flows.due("w12 is " + word + ", summed up as such", true, w, want);
                flows.due("w12 is " + word + " and w13 0", true, Packets.broken(w, 13, 0), want);
            }
        }
    }

    /** 1 (ICMP): 14 words or more. */
    private void icmpHas14WordsOrMore() {
        dueFrom("ECHO", ECHO, IN[2], 14);
    }

    /** w10 is 2048 or 0, or w10 / 256 is 3 or 11. */
    private void icmpIsEchoOrError() {
        for (int word : new int[] {1, 255, 256, 767, 1024, 1536, 2047, 2049, 2303, 2304, 2815, 3072, 32768,
            34816, 65535}) {
            flows.due("w10 is " + word + ", out", true, Packets.with(ERROR, 10, word), 1);
            flows.due("w10 is " + word + ", in", false, Packets.with(IN[3], 10, word), 1);
            flows.due("w10 is " + word + " of ECHO, out", true, Packets.with(ECHO, 10, word), 1);
            flows.due("w10 is " + word + " of ECHO, in", false, Packets.with(IN[2], 10, word), 1);
        }
        for (int word : new int[] {768, 769, 1023, 2816, 2817, 3071}) {
            flows.due("w10 is " + word + ", out", true, Packets.with(ERROR, 10, word), 0);
            flows.due("w10 is " + word + ", in", false, Packets.with(IN[3], 10, word), 0);
            flows.due("w10 is " + word + " of ECHO", true, Packets.with(ECHO, 10, word), 1);
        }
        flows.due("w10 is 2048, out", true, Packets.with(ECHO, 10, 2048), 0);
        flows.due("w10 is 0, out", true, Packets.with(ECHO, 10, 0), 0);
        flows.due("w10 is 0, in", false, Packets.with(IN[2], 10, 0), 0);
        flows.due("w10 is 2048, in", false, Packets.with(IN[2], 10, 2048), 5);
        // Where another packet would be in an error, ECHO has data.
        int[] data = Packets.resized(ECHO, 28);
        flows.due("ECHO with 28 words", true, Packets.with(data, 14, 1), 0);
        flows.due("ECHO with w10 0 and 28 words", true, Packets.with(data, 10, 0), 0);
    }

    /** An ERROR: then there are 28 words or more. */
    private void errorHas28WordsOrMore() {
        for (int k = 3; k < 6; k++) {
            dueFrom("an error", OUT[k], IN[k], 28);
        }
        for (int size = 14; size < 28; size++) {
            fresh.due("an error of " + size + " words", true, Packets.resized(ERROR, size), 1);
        }
        fresh.due("an error of 28 words without a flow", true, ERROR, 5);
    }

    private void dueOfErrors(String what, int i, int word, int want) {
        for (int k = 3; k < 6; k++) {
            flows.due(what + ", out", true, Packets.with(OUT[k], i, word), want);
            flows.due(what + ", in", false, Packets.with(IN[k], i, word), want);
        }
    }

    /** w14 / 256 is 69. */
    private void otherPacketHasVersion69() {
        dueOfErrors("w14 is 69 * 256", 14, 17664, 0);
        dueOfErrors("w14 is 70 * 256 - 1", 14, 17919, 0);
        for (int word : new int[] {0, 69, 17663, 17920, 65535}) {
            dueOfErrors("w14 is " + word, 14, word, 1);
        }
    }

    /** w18 & 255 its kind (6, 17 or 1). */
    private void otherPacketIsOfKind6Or17Or1() {
        for (int kind : new int[] {0, 2, 5, 7, 16, 18, 22, 49, 129, 134, 145, 255}) {
            dueOfErrors("w18 is of kind " + kind, 18, 64 << 8 | kind, 1);
        }
        for (int k = 3; k < 6; k++) {
            int kind = OUT[k][18] & 255;
            // Its time may be anything: it has been on its way already.
            for (int time : new int[] {0, 1, 2, 255}) {
                flows.due("an error about kind " + kind, true, Packets.with(OUT[k], 18, time << 8 | kind), 0);
                flows.due("an error about kind " + kind, false, Packets.with(IN[k], 18, time << 8 | kind), 0);
            }
        }
    }
}
