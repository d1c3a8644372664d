import java.util.Arrays;

/** The boundaries of the calls: put, scrap, length, at, tick, flows, flow, bindings, and 512 of them. */
final class CallBoundsTest {
    private static final int HOST = Packets.HOST;
    private static final int SERVER = Packets.SERVER;
    private static final int OWN = Packets.OWN;
    private static final int[] KINDS = {6, 17, 1};

    private final Check check = new Check();
    private final Twins fresh = new Twins(check, Scenes::fresh);
    private final Twins busy = new Twins(check, Scenes::busy);
    private final Twins full = new Twins(check, Scenes::full);

    private CallBoundsTest() {
    }

    public static void main(String[] args) {
        CallBoundsTest test = new CallBoundsTest();
        test.newObjectHasNothing();
        test.putTakes1To4();
        test.putTakesTheLowestBits();
        test.putFillsUpTo48();
        test.putFromEmptyToFull();
        test.scrapOfEveryDraft();
        test.lengthIs0BeforeAny();
        test.lengthAndAtOfEverySize();
        test.tickTakes1To100();
        test.flowsFrom0To12();
        test.flowTakesThoseThatAreThere();
        test.flowTakes0To7();
        test.flagsOfOtherKindsAre0();
        test.bindingsFrom0To6();
        test.bindingsOfOtherNumbers();
        test.lastOf512Calls();
        test.check.end();
    }

    /** No flows, no rules, an empty draft, nothing routed. */
    private void newObjectHasNothing() {
        PortTranslator x = new PortTranslator();
        check.due("flows()", x.flows(), 0);
        check.due("length()", x.length(), 0);
        check.due("route(true)", x.route(true), 1);
        check.due("rule(0, ..)", x.rule(0, 0, 0, 0, true), 1);
        fresh.dueThrow("at(0)", y -> y.at(0), IndexOutOfBoundsException.class);
        fresh.dueThrow("flow(0, 0)", y -> y.flow(0, 0), IndexOutOfBoundsException.class);
        fresh.dueThrow("forget(0)", y -> y.forget(0), IllegalArgumentException.class);
    }

    /** False when n is not 1 .. 4. */
    private void putTakes1To4() {
        int[] packet = Scenes.udpOut(1, 2, 3);
        int[] longest = Packets.resized(packet, 48);
        for (int n : new int[] {0, 5, -1, -4, 6, 16, 64, Integer.MIN_VALUE, Integer.MAX_VALUE}) {
            for (long words : new long[] {0, -1, 0x0001_0002_0003_0004L}) {
                for (Twins some : new Twins[] {fresh, busy, full}) {
                    some.dueFalse("put(" + n + ", ..) first", packet, 0, n, words);
                    some.dueFalse("put(" + n + ", ..) in between", packet, 7, n, words);
                    some.dueFalse("put(" + n + ", ..) behind it", packet, packet.length, n, words);
                }
                busy.dueFalse("put(" + n + ", ..) behind 43 words", longest, 43, n, words);
                busy.dueFalse("put(" + n + ", ..) behind 48 words", longest, 48, n, words);
            }
        }
    }

    /** Appends n words, the lowest 16 * n bits of words, the highest first. */
    private void putTakesTheLowestBits() {
        long words = 0x8001_7fff_0000_ffffL;
        int[] due = {0x8001, 0x7fff, 0x0000, 0xffff};
        for (int n = 1; n <= 4; n++) {
            int[] data = Arrays.copyOfRange(due, 4 - n, 4);
            int[] packet = Scenes.udpOut(data);
            PortTranslator x = new PortTranslator();
            Packets.feed(x, Arrays.copyOf(packet, 14));
            check.due("put(" + n + ", ..)", x.put(n, words), true);
            check.due("route(true)", x.route(true), 0);
            check.due("length()", x.length(), 14 + n);
            for (int i = 0; i < n; i++) {
                check.due("at(" + (14 + i) + ")", x.at(14 + i), data[i]);
            }
        }
    }

    /** Or it would have more than 48. */
    private void putFillsUpTo48() {
        int[] longest = Packets.resized(Scenes.udpOut(1, 2, 3), 48);
        for (int begun = 44; begun <= 48; begun++) {
            for (int n = 1; n <= 4; n++) {
                if (begun + n > 48) {
                    for (Twins some : new Twins[] {fresh, busy, full}) {
                        some.dueFalse("put(" + n + ", ..) behind " + begun, longest, begun, n, -1);
                    }
                } else {
                    PortTranslator x = new PortTranslator();
                    Packets.feed(x, Arrays.copyOf(longest, begun));
                    check.due("put(" + n + ", ..) behind " + begun, x.put(n, 0), true);
                    check.due("the rest", x.put(48 - begun - n, 0), begun + n < 48);
                    check.due("route(true)", x.route(true), 0);
                    check.due("length()", x.length(), 48);
                }
            }
        }
    }

    private void putFromEmptyToFull() {
        for (int n = 1; n <= 4; n++) {
            PortTranslator x = new PortTranslator();
            for (int i = 0; i < 48 / n; i++) {
                check.due("put " + i + " of " + n, x.put(n, 0), true);
            }
            for (int more = 1; more <= 4; more++) {
                check.due("put(" + more + ", 0) behind 48 words", x.put(more, 0), false);
            }
            check.due("route(true) of 48 words 0", x.route(true), 1);
            check.due("put(" + n + ", 0) then", x.put(n, 0), true);
        }
    }

    /** The draft becomes empty. */
    private void scrapOfEveryDraft() {
        int[] longest = Packets.resized(Scenes.udpOut(1, 2, 3), 48);
        for (int begun : new int[] {0, 1, 13, 47, 48}) {
            PortTranslator x = busy.made();
            int[] before = Packets.latest(x);
            Packets.feed(x, Arrays.copyOf(longest, begun));
            x.scrap();
            check.due("what was routed", Arrays.equals(before, Packets.latest(x)), true);
            check.due("flows()", x.flows(), 3);
            check.due("flow(0, 6)", x.flow(0, 6), 5);
            check.due("48 words behind scrap()", Packets.route(x, true, longest), 0);
            x.scrap();
            check.due("length() behind scrap()", x.length(), 48);
            check.due("route(true) behind scrap()", x.route(true), 1);
        }
    }

    /** 0 before any was. */
    private void lengthIs0BeforeAny() {
        PortTranslator x = new PortTranslator();
        Packets.feed(x, Scenes.udpOut());
        check.due("length() with a draft", x.length(), 0);
        check.dueThrow("at(0) with a draft", () -> x.at(0), IndexOutOfBoundsException.class);
        x.scrap();
        Packets.route(x, true, Packets.broken(Scenes.udpOut(), 13, 1));
        Packets.route(x, true, Packets.with(Scenes.udpOut(), 4, 256 + 17));
        Packets.route(x, false, Scenes.udpIn());
        check.due("length() after refusals", x.length(), 0);
        check.dueThrow("at(0) after refusals", () -> x.at(0), IndexOutOfBoundsException.class);
        Packets.route(x, true, Scenes.udpOut());
        check.due("length() after one", x.length(), 14);
    }

    /** Its word i. IndexOutOfBoundsException: there is none. */
    private void lengthAndAtOfEverySize() {
        for (int size = 14; size <= 48; size++) {
            int[] packet = Packets.resized(Packets.with(Scenes.udpOut(), 2, size), size);
            packet = Packets.with(packet, size - 1, size == 14 ? packet[13] : 60000 + size);
            int[] sent = packet;
            Twins some = new Twins(check, x -> Packets.route(x, true, sent));
            PortTranslator x = some.made();
            check.due("length()", x.length(), size);
            check.due("at(0)", x.at(0), packet[0]);
            if (size > 14) {
                check.due("at(" + (size - 1) + ")", x.at(size - 1), packet[size - 1]);
            }
            for (int i : new int[] {-1, size, size + 1, 48, Integer.MIN_VALUE, Integer.MAX_VALUE}) {
                some.dueThrow("at(" + i + ") of " + size, y -> y.at(i), IndexOutOfBoundsException.class);
            }
        }
        // A shorter packet leaves nothing of a longer one.
        PortTranslator x = new PortTranslator();
        Packets.route(x, true, Packets.resized(Scenes.udpOut(), 48));
        Packets.route(x, true, Scenes.udpOut());
        for (int i = 14; i < 48; i++) {
            int behind = i;
            check.dueThrow("at(" + i + ") of 14", () -> x.at(behind), IndexOutOfBoundsException.class);
        }
    }

    /** n is not 1 .. 100. */
    private void tickTakes1To100() {
        for (Twins some : new Twins[] {fresh, busy, full}) {
            for (int n : new int[] {0, 101, -1, -100, 102, 256, Integer.MIN_VALUE, Integer.MAX_VALUE}) {
                some.dueThrow("tick(" + n + ")", x -> x.tick(n), IllegalArgumentException.class);
            }
        }
        check.due("tick(1) of none", fresh.made().tick(1), 0);
        check.due("tick(100) of none", fresh.made().tick(100), 0);
        PortTranslator x = busy.made();
        check.due("tick(1)", x.tick(1), 0);
        check.due("flow(0, 6)", x.flow(0, 6), 6);
        check.due("tick(97)", x.tick(97), 2);
        check.due("flow(0, 6) of the one that stays", x.flow(0, 6), 100);
        check.due("tick(1) at its end", x.tick(1), 1);
        PortTranslator y = new PortTranslator();
        Packets.route(y, true, Scenes.tcpOut(Packets.SYN));
        Packets.route(y, false, Scenes.tcpIn(Packets.SYN | Packets.ACK));
        check.due("tick(100)", y.tick(100), 0);
        check.due("flow(0, 6) after 100", y.flow(0, 6), 100);
        check.due("tick(100) of 12", full.made().tick(100), 12);
    }

    /** How many flows there are. */
    private void flowsFrom0To12() {
        PortTranslator x = new PortTranslator();
        for (int i = 0; i < 12; i++) {
            check.due("flows()", x.flows(), i);
            Packets.route(x, true, Packets.udp(HOST, 5, SERVER, i));
        }
        check.due("flows() of all", x.flows(), 12);
        Packets.route(x, true, Packets.udp(HOST, 5, SERVER, 12));
        check.due("flows() after one too many", x.flows(), 12);
    }

    /** IndexOutOfBoundsException: there is none. */
    private void flowTakesThoseThatAreThere() {
        for (int which : new int[] {0, 7, 8, -1}) {
            for (int k : new int[] {-1, 3, 4, 11, 12, Integer.MIN_VALUE, Integer.MAX_VALUE}) {
                busy.dueThrow("flow(" + k + ", " + which + ")", x -> x.flow(k, which),
                        IndexOutOfBoundsException.class);
            }
            for (int k : new int[] {-1, 12, 13}) {
                full.dueThrow("flow(" + k + ", " + which + ")", x -> x.flow(k, which),
                        IndexOutOfBoundsException.class);
            }
            for (int k : new int[] {-1, 0, 1, 11}) {
                fresh.dueThrow("flow(" + k + ", " + which + ")", x -> x.flow(k, which),
                        IndexOutOfBoundsException.class);
            }
        }
        PortTranslator x = full.made();
        for (int k = 0; k < 12; k++) {
            check.due("flow(" + k + ", 2)", x.flow(k, 2), 5000 + k / 2);
            check.due("flow(" + k + ", 4)", x.flow(k, 4), 53 + k % 2);
        }
        check.due("flow(2, 0), the last of three", busy.made().flow(2, 0), 1);
    }

    /** IllegalArgumentException: which is not 0 .. 7. */
    private void flowTakes0To7() {
        for (int which : new int[] {-1, 8, 9, -8, 256, Integer.MIN_VALUE, Integer.MAX_VALUE}) {
            for (int k = 0; k < 3; k++) {
                int number = k;
                busy.dueThrow("flow(" + k + ", " + which + ")", x -> x.flow(number, which),
                        IllegalArgumentException.class);
            }
            full.dueThrow("flow(11, " + which + ")", x -> x.flow(11, which), IllegalArgumentException.class);
        }
        PortTranslator x = busy.made();
        int[][] due = {
            {17, HOST, 5000, SERVER, 53, 40000, 5, 0},
            {6, HOST, 6000, SERVER, 80, 40000, 2, 3},
            {1, HOST, 77, SERVER, 0, 40000, 3, 0}};
        for (int k = 0; k < 3; k++) {
            for (int which = 0; which < 8; which++) {
                check.due("flow(" + k + ", " + which + ")", x.flow(k, which), due[k][which]);
            }
        }
    }

    /** 7 of kind 6: 1 if SYN came back, + 2 if FIN went out, + 4 if FIN came in (0 of other kinds). */
    private void flagsOfOtherKindsAre0() {
        for (int flags = 0; flags < 8; flags++) {
            PortTranslator x = new PortTranslator();
            Packets.route(x, true, Scenes.tcpOut(Packets.SYN));
            if ((flags & 1) != 0) {
                Packets.route(x, false, Scenes.tcpIn(Packets.SYN | Packets.ACK));
            }
            if ((flags & 2) != 0) {
                Packets.route(x, true, Scenes.tcpOut(Packets.FIN));
            }
            if ((flags & 4) != 0) {
                Packets.route(x, false, Scenes.tcpIn(Packets.FIN));
            }
            check.due("flow(0, 7)", x.flow(0, 7), flags);
        }
        // The word that has the flags of kind 6 is like any other there.
        int[] words = {0, 0, 5 << 12 | 0xfff};
        PortTranslator x = new PortTranslator();
        Packets.route(x, true, Scenes.udpOut(words));
        Packets.route(x, false, Scenes.udpIn(words));
        Packets.route(x, true, Scenes.echoOut(Packets.REQUEST, words));
        Packets.route(x, false, Scenes.echoIn(Packets.REPLY, words));
        check.due("flows() of kinds 17 and 1", x.flows(), 2);
        check.due("flow(0, 7) of kind 17", x.flow(0, 7), 0);
        check.due("flow(1, 7) of kind 1", x.flow(1, 7), 0);
    }

    /** How many bindings of a kind there are. */
    private void bindingsFrom0To6() {
        for (int kind : KINDS) {
            PortTranslator x = new PortTranslator();
            for (int i = 0; i < 6; i++) {
                check.due("bindings(" + kind + ")", x.bindings(kind), i);
                Packets.route(x, true, Scenes.first(kind, HOST, 5 + i, SERVER, 9));
                Packets.route(x, true, Scenes.first(kind, HOST, 5 + i, SERVER + 1, 9));
            }
            check.due("bindings(" + kind + ") of all", x.bindings(kind), 6);
            check.due("flows()", x.flows(), 12);
            x.tick(31);
            check.due("bindings(" + kind + ") of none", x.bindings(kind), 0);
        }
    }

    /** 0 of another number. */
    private void bindingsOfOtherNumbers() {
        PortTranslator x = busy.made();
        for (int kind = -20; kind < 300; kind++) {
            boolean there = kind == 6 || kind == 17 || kind == 1;
            check.due("bindings(" + kind + ")", x.bindings(kind), there ? 1 : 0);
        }
        for (int kind : new int[] {Integer.MIN_VALUE, Integer.MAX_VALUE, 65536 + 17, -1}) {
            check.due("bindings(" + kind + ")", busy.made().bindings(kind), 0);
        }
    }

    /** An object is used for at most 512 calls: the last of them answers as the first. */
    private void lastOf512Calls() {
        PortTranslator x = new PortTranslator();
        int[] out = Scenes.udpOut();
        int calls = 0;
        while (calls < 505) {
            check.due("route(true)", Packets.route(x, true, out), 0);
            calls += 5;
        }
        check.due("call 506", x.tick(30), 0);
        check.due("call 507", x.length(), 14);
        Packets.feed(x, Scenes.udpIn());
        check.due("call 512", x.route(false), 0);

        PortTranslator y = new PortTranslator();
        for (int i = 0; i < 510; i++) {
            check.due("put(1, 0)", y.put(1, 0), i < 48);
        }
        check.due("call 511", y.route(true), 1);
        check.due("call 512", y.put(4, 0), true);
        PortTranslator z = new PortTranslator();
        Packets.route(z, true, Packets.udp(HOST, 5, SERVER, 9));
        for (int i = 5; i < 511; i++) {
            check.dueThrow("tick(0)", () -> z.tick(0), IllegalArgumentException.class);
        }
        check.due("call 512 of refused ones", z.flow(0, 6), 0);
        check.due("another object", Packets.route(new PortTranslator(), false,
                Packets.udp(SERVER, 9, OWN, 40000)), 5);
    }
}
