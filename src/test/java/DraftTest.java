import java.util.Arrays;

/** Promises 2 and 3: put and scrap. */
final class DraftTest {
    private static final int[] PACKET = Packets.udp(Packets.HOST, 5000, Packets.SERVER, 53, 1, 2, 3, 4);

    private DraftTest() {
    }

    public static void main(String[] args) {
        Check check = new Check();
        wordsComeHighestFirst(check);
        onlyTheLowestBitsCount(check);
        wrongNumbersChangeNothing(check);
        draftEndsAt48(check);
        scrapEmpties(check);
        check.end();
    }

    private static void wordsComeHighestFirst(Check check) {
        for (int n = 1; n <= 4; n++) {
            PortTranslator x = new PortTranslator();
            putInPieces(check, x, n, 0);
            check.due("route(true) of pieces of " + n, x.route(true), 0);
            check.due("at(15) of pieces of " + n, x.at(15), 2);
        }
    }

    private static void onlyTheLowestBitsCount(Check check) {
        for (int n = 1; n <= 3; n++) {
            PortTranslator x = new PortTranslator();
            putInPieces(check, x, n, -1L << (16 * n));
            check.due("route(true) of pieces of " + n + " with higher bits", x.route(true), 0);
        }
    }

    private static void putInPieces(Check check, PortTranslator x, int n, long higher) {
        int whole = PACKET.length / n * n;
        for (int i = 0; i < whole; i += n) {
            long bits = higher;
            for (int j = 0; j < n; j++) {
                bits |= (long) PACKET[i + j] << (16 * (n - 1 - j));
            }
            check.due("put(" + n + ", ..)", x.put(n, bits), true);
        }
        for (int i = whole; i < PACKET.length; i++) {
            check.due("put(1, ..)", x.put(1, PACKET[i]), true);
        }
    }

    private static void wrongNumbersChangeNothing(Check check) {
        PortTranslator x = new PortTranslator();
        Packets.feed(x, Arrays.copyOf(PACKET, 7));
        for (int n : new int[] {0, 5, -1, 100, Integer.MIN_VALUE, Integer.MAX_VALUE}) {
            check.due("put(" + n + ", 1)", x.put(n, 1), false);
        }
        Packets.feed(x, Arrays.copyOfRange(PACKET, 7, PACKET.length));
        check.due("route(true) after wrong puts", x.route(true), 0);
    }

    private static void draftEndsAt48(Check check) {
        int[] longest = Packets.resized(PACKET, 48);
        PortTranslator x = new PortTranslator();
        Packets.feed(x, longest);
        for (int n = 1; n <= 4; n++) {
            check.due("put(" + n + ", 1) behind 48 words", x.put(n, 1), false);
        }
        check.due("route(true) of 48 words", x.route(true), 0);
        check.due("length()", x.length(), 48);

        Packets.feed(x, Arrays.copyOf(longest, 46));
        check.due("put(4, 0) behind 46 words", x.put(4, 0), false);
        check.due("put(3, 0) behind 46 words", x.put(3, 0), false);
        check.due("put(2, ..) behind 46 words",
                x.put(2, (long) longest[46] << 16 | longest[47]), true);
        check.due("route(true) of 48 words, again", x.route(true), 0);
    }

    private static void scrapEmpties(Check check) {
        PortTranslator x = new PortTranslator();
        Packets.feed(x, PACKET);
        x.scrap();
        check.due("route(true) after scrap()", x.route(true), 1);
        Packets.feed(x, Packets.resized(PACKET, 48));
        x.scrap();
        check.due("put(4, 0) after scrap()", x.put(4, 0), true);
        x.scrap();
        x.scrap();
        check.due("route(true) of a packet after scrap()", Packets.route(x, true, PACKET), 0);
        x.scrap();
        check.due("length() after scrap()", x.length(), PACKET.length);
        check.due("flows() after scrap()", x.flows(), 1);
    }
}
