import java.util.Arrays;

/** The boundaries that the first paragraph of "Terms" names: words, addresses, own ports. */
final class WordBoundsTest {
    private static final int HOST = Packets.HOST;
    private static final int SERVER = Packets.SERVER;
    private static final int OWN = Packets.OWN;
    private static final int FIRST_INSIDE = 167772160;
    private static final int LAST_INSIDE = 167772415;
    private static final int[] KINDS = {6, 17, 1};

    private final Check check = new Check();
    private final Twins fresh = new Twins(check, Scenes::fresh);
    private final Twins flows = new Twins(check, Scenes::oneOfEach);

    private WordBoundsTest() {
    }

    public static void main(String[] args) {
        WordBoundsTest test = new WordBoundsTest();
        test.wordsAre0To65535();
        test.portsAreWords();
        test.addressIsTwoWordsHigherFirst();
        test.insideIsWhereOutComesFrom();
        test.insideIsNotWhereOutGoes();
        test.insideIsNotWhereInComesFrom();
        test.ownIsWhereInGoes();
        test.ownIsNotOutside();
        test.ownPortsBeginAndEnd();
        test.ownPortsAreAllThatComesIn();
        test.check.end();
    }

    /** WORDS are 0 .. 65535. */
    private void wordsAre0To65535() {
        long[] some = {0, 1, 32767, 32768, 65534, 65535, 65536, 65537, 131071, 1L << 32, -1, -65536,
            Long.MAX_VALUE, Long.MIN_VALUE};
        for (long bits : some) {
            int word = (int) (bits & 65535);
            PortTranslator x = new PortTranslator();
            int[] packet = Packets.udp(HOST, 5000, SERVER, 53, word);
            Packets.feed(x, Arrays.copyOf(packet, 14));
            check.due("put(1, " + bits + ")", x.put(1, bits), true);
            check.due("route(true) with that word", x.route(true), 0);
            check.due("at(14) of " + bits, x.at(14), word);
        }
    }

    private void portsAreWords() {
        for (int port : new int[] {0, 1, 32768, 65534, 65535}) {
            for (int kind : KINDS) {
                PortTranslator x = new PortTranslator();
                check.due("kind " + kind + " from port " + port,
                        Packets.route(x, true, Scenes.first(kind, HOST, port, SERVER, 65535 - port)), 0);
                check.due("flow(0, 2)", x.flow(0, 2), port);
                check.due("flow(0, 4)", x.flow(0, 4), kind == 1 ? 0 : 65535 - port);
                check.due("its answer",
                        Packets.route(x, false, Scenes.answer(kind, SERVER, 65535 - port, OWN, 40000)), 0);
                check.due("its port", x.at(kind == 1 ? 12 : 11), port);
            }
        }
    }

    /** An ADDRESS is an int, two words, the higher one first. */
    private void addressIsTwoWordsHigherFirst() {
        int[] some = {0, 1, 32768, 65535, 65536, 0x7fff0000, 0x7fffffff, 0x80000000, 0x80008000, 0xffff0000,
            0xffff8000, -1};
        for (int to : some) {
            PortTranslator x = new PortTranslator();
            check.due("out to " + to, Packets.route(x, true, Packets.udp(HOST, 1, to, 2)), 0);
            check.due("flow(0, 3)", x.flow(0, 3), to);
            check.due("at(6)", x.at(6), 0xc633);
            check.due("at(7)", x.at(7), 0x6401);
            check.due("at(8)", x.at(8), to >>> 16);
            check.due("at(9)", x.at(9), to & 65535);
            check.due("in from " + to, Packets.route(x, false, Packets.udp(to, 2, OWN, 40000)), 0);
            check.due("at(8), in", x.at(8), 0x0a00);
            check.due("at(9), in", x.at(9), 5);
            int swapped = to << 16 | to >>> 16;
            check.due("in from " + swapped, Packets.route(x, false, Packets.udp(swapped, 2, OWN, 40000)),
                    swapped == to ? 0 : 5);
        }
    }

    /** INSIDE are the addresses 167772160 .. 167772415. */
    private void insideIsWhereOutComesFrom() {
        for (int kind : KINDS) {
            for (int from : new int[] {FIRST_INSIDE, FIRST_INSIDE + 1, LAST_INSIDE - 1, LAST_INSIDE}) {
                int[] packet = Scenes.first(kind, from, 5, SERVER, 7);
                fresh.due("kind " + kind + " out from " + from, true, packet, 0);
                PortTranslator x = new PortTranslator();
                Packets.route(x, true, packet);
                check.due("the inner address", x.flow(0, 1), from);
                check.due("an error out from " + from, Packets.route(x, true, Packets.error(3, from,
                        SERVER, Scenes.answer(kind, SERVER, 7, from, 5))), 0);
            }
            for (int from : new int[] {FIRST_INSIDE - 1, LAST_INSIDE + 1, Integer.MIN_VALUE,
                -FIRST_INSIDE, FIRST_INSIDE + 256, FIRST_INSIDE - 256, FIRST_INSIDE ^ Integer.MIN_VALUE}) {
                flows.due("kind " + kind + " out from " + from, true,
                        Scenes.first(kind, from, 5, SERVER, 7), 5);
                flows.due("an error out from " + from, true, Packets.error(3, from, SERVER,
                        Scenes.answer(kind, SERVER, 7, from, 5)), 5);
            }
        }
    }

    private void insideIsNotWhereOutGoes() {
        for (int kind : KINDS) {
            for (int to : new int[] {FIRST_INSIDE - 1, LAST_INSIDE + 1}) {
                fresh.due("kind " + kind + " out to " + to, true, Scenes.first(kind, HOST, 5, to, 7), 0);
                flows.due("an error out to " + to, true, to(Scenes.errorOut(kind), to), 0);
            }
            for (int to : new int[] {FIRST_INSIDE, LAST_INSIDE, HOST}) {
                fresh.due("kind " + kind + " out to " + to, true, Scenes.first(kind, HOST, 5, to, 7), 5);
                flows.due("an error out to " + to, true, to(Scenes.errorOut(kind), to), 5);
            }
        }
    }

    private static int[] to(int[] packet, int to) {
        return Packets.with(Packets.with(packet, 8, to >>> 16), 9, to & 65535);
    }

    private static int[] from(int[] packet, int from) {
        return Packets.with(Packets.with(packet, 6, from >>> 16), 7, from & 65535);
    }

    private void insideIsNotWhereInComesFrom() {
        for (int kind : KINDS) {
            for (int from : new int[] {FIRST_INSIDE - 1, LAST_INSIDE + 1}) {
                PortTranslator x = new PortTranslator();
                Packets.route(x, true, Scenes.first(kind, HOST, 5, from, 7));
                check.due("kind " + kind + " in from " + from,
                        Packets.route(x, false, Scenes.answer(kind, from, 7, OWN, 40000)), 0);
                flows.due("an error in from " + from, false, from(Scenes.errorIn(kind), from), 0);
            }
            for (int from : new int[] {FIRST_INSIDE, LAST_INSIDE, HOST}) {
                flows.due("kind " + kind + " in from " + from, false,
                        Scenes.answer(kind, from, kind == 6 ? 80 : 53, OWN, 40000), 5);
                flows.due("an error in from " + from, false, from(Scenes.errorIn(kind), from), 5);
            }
        }
    }

    /** The router's OWN address is -969710591. */
    private void ownIsWhereInGoes() {
        int[][] packets = {Scenes.udpIn(), Scenes.tcpIn(Packets.ACK), Scenes.echoIn(Packets.REPLY),
            Scenes.errorIn(17), Scenes.errorIn(6), Scenes.errorIn(1)};
        for (int i = 0; i < packets.length; i++) {
            flows.due("packet " + i + " in to the own address", false, to(packets[i], -969710591), 0);
            for (int to : new int[] {OWN - 1, OWN + 1, -OWN, HOST, SERVER}) {
                flows.due("packet " + i + " in to " + to, false, to(packets[i], to), 5);
            }
        }
    }

    /** All others are OUTSIDE. */
    private void ownIsNotOutside() {
        for (int kind : KINDS) {
            fresh.due("kind " + kind + " out to the own", true, Scenes.first(kind, HOST, 5, OWN, 7), 5);
            flows.due("an error out to the own", true, to(Scenes.errorOut(kind), OWN), 5);
            flows.due("kind " + kind + " in from the own", false,
                    Scenes.answer(kind, OWN, kind == 6 ? 80 : 53, OWN, 40000), 5);
            flows.due("an error in from the own", false, from(Scenes.errorIn(kind), OWN), 5);
            for (int outside : new int[] {OWN - 1, OWN + 1, 0, -1, Integer.MIN_VALUE, Integer.MAX_VALUE}) {
                PortTranslator x = new PortTranslator();
                check.due("kind " + kind + " out to " + outside,
                        Packets.route(x, true, Scenes.first(kind, HOST, 5, outside, 7)), 0);
                check.due("kind " + kind + " in from " + outside,
                        Packets.route(x, false, Scenes.answer(kind, outside, 7, OWN, 40000)), 0);
                flows.due("an error out to " + outside, true, to(Scenes.errorOut(kind), outside), 0);
                flows.due("an error in from " + outside, false, from(Scenes.errorIn(kind), outside), 0);
            }
        }
    }

    /** Its own PORTS are 40000 .. 40005. */
    private void ownPortsBeginAndEnd() {
        for (int kind : KINDS) {
            Twins six = new Twins(check, x -> sixBindings(x, kind));
            PortTranslator x = six.made();
            for (int k = 0; k < 6; k++) {
                check.due("own port " + k + " of kind " + kind, x.flow(k, 5), 40000 + k);
            }
            check.due("bindings(" + kind + ")", x.bindings(kind), 6);
            six.due("one more of kind " + kind, true, Scenes.first(kind, HOST, 106, SERVER, 9), 6);
        }
    }

    private static void sixBindings(PortTranslator x, int kind) {
        for (int i = 0; i < 6; i++) {
            Packets.route(x, true, Scenes.first(kind, HOST, 100 + i, SERVER, 9));
        }
        x.tick(2);
    }

    private void ownPortsAreAllThatComesIn() {
        for (int kind : KINDS) {
            Twins six = new Twins(check, x -> sixBindings(x, kind));
            for (int port : new int[] {39999, 40000, 40005, 40006, 0, 100, 105, 65535}) {
                int want = port >= 40000 && port <= 40005 ? 0 : 5;
                six.due("kind " + kind + " in to port " + port, false,
                        Scenes.answer(kind, SERVER, 9, OWN, port), want);
                six.due("an error in about port " + port, false,
                        Packets.error(3, SERVER, OWN, Scenes.first(kind, OWN, port, SERVER, 9)), want);
            }
        }
    }
}
