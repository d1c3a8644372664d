/** The boundaries of rules: "Terms", rule and forget. */
final class RuleBoundsTest {
    private static final int HOST = Packets.HOST;
    private static final int SERVER = Packets.SERVER;
    private static final int[] KINDS = {6, 17, 1};
    private static final int[] BAD_NUMBERS = {-1, 4, 5, -4, 256, Integer.MIN_VALUE, Integer.MAX_VALUE};
    private static final int[] BAD_KINDS = {-1, 2, 3, 4, 5, 7, 16, 18, 23, 255, 256, 257, -6, Integer.MIN_VALUE,
        Integer.MAX_VALUE};
    private static final int[] BAD_BITS = {-1, 33, 34, 64, -32, Integer.MIN_VALUE, Integer.MAX_VALUE};

    private final Check check = new Check();
    private final Twins[] scenes = {new Twins(check, Scenes::fresh), new Twins(check, Scenes::busy),
        new Twins(check, Scenes::full)};

    private RuleBoundsTest() {
    }

    public static void main(String[] args) {
        RuleBoundsTest test = new RuleBoundsTest();
        test.numbersAre0To3();
        test.kindsAre0And1And6And17();
        test.bitsAre0To32();
        test.severalThingsWrong();
        test.countsFrom0To4();
        test.forgetNeedsARule();
        test.atFirstThereAreNone();
        test.kind0IsAny();
        test.networksOfEveryWidth();
        test.networkBitsThatDoNotCount();
        test.firstRuleByNumber();
        test.permittedIfThereIsNone();
        test.rulesAreOfTheOuterAddress();
        test.rulesLeaveFlowsAlone();
        test.check.end();
    }

    private void dueThrow(String what, int k, int kind, int bits) {
        for (Twins scene : scenes) {
            for (boolean permits : new boolean[] {true, false}) {
                scene.dueThrow(what, x -> x.rule(k, kind, SERVER, bits, permits),
                        IllegalArgumentException.class);
            }
        }
    }

    /** k is not 0 .. 3. */
    private void numbersAre0To3() {
        for (int k : BAD_NUMBERS) {
            dueThrow("rule(" + k + ", ..)", k, 0, 0);
        }
        for (int k = 0; k < 4; k++) {
            PortTranslator x = new PortTranslator();
            check.due("rule(" + k + ", ..)", x.rule(k, 0, 0, 0, false), 1);
            check.due("a new flow", Packets.route(x, true, Scenes.udpOut()), 5);
            check.due("forget(" + k + ")", x.forget(k), 0);
            check.due("a new flow", Packets.route(x, true, Scenes.udpOut()), 0);
        }
    }

    /** kind not 0, 1, 6 or 17. */
    private void kindsAre0And1And6And17() {
        for (int kind : BAD_KINDS) {
            dueThrow("rule(1, " + kind + ", ..)", 1, kind, 0);
        }
        for (int kind : new int[] {0, 1, 6, 17}) {
            check.due("rule(1, " + kind + ", ..)", new PortTranslator().rule(1, kind, 0, 0, true), 1);
        }
    }

    /** bits not 0 .. 32. */
    private void bitsAre0To32() {
        for (int bits : BAD_BITS) {
            dueThrow("rule(2, 0, .., " + bits + ", ..)", 2, 0, bits);
        }
        for (int bits = 0; bits <= 32; bits++) {
            check.due("rule with " + bits + " bits", new PortTranslator().rule(2, 0, -1, bits, true), 1);
        }
        for (int network : new int[] {0, -1, Integer.MIN_VALUE, Integer.MAX_VALUE}) {
            check.due("rule with network " + network, new PortTranslator().rule(2, 0, network, 5, true), 1);
        }
    }

    private void severalThingsWrong() {
        dueThrow("rule(4, 2, .., 33, ..)", 4, 2, 33);
        dueThrow("rule(-1, -1, .., -1, ..)", -1, -1, -1);
        dueThrow("rule(0, 2, .., 33, ..)", 0, 2, 33);
        dueThrow("rule(4, 0, .., 33, ..)", 4, 0, 33);
    }

    /** Answers how many rules there are then. */
    private void countsFrom0To4() {
        int[] order = {3, 0, 2, 1};
        PortTranslator x = new PortTranslator();
        for (int i = 0; i < 4; i++) {
            check.due("rule(" + order[i] + ")", x.rule(order[i], 0, 0, 0, true), i + 1);
            check.due("rule(" + order[i] + ") again", x.rule(order[i], 6, 1, 1, false), i + 1);
        }
        for (int i = 0; i < 4; i++) {
            check.due("forget(" + order[i] + ")", x.forget(order[i]), 3 - i);
            int gone = order[i];
            check.dueThrow("forget(" + gone + ") again", () -> x.forget(gone), IllegalArgumentException.class);
        }
        check.due("rule(0) after all", x.rule(0, 0, 0, 0, true), 1);
    }

    /** IllegalArgumentException: there was none. */
    private void forgetNeedsARule() {
        for (Twins scene : scenes) {
            for (int k : BAD_NUMBERS) {
                scene.dueThrow("forget(" + k + ")", x -> x.forget(k), IllegalArgumentException.class);
            }
        }
        for (int k = 0; k < 4; k++) {
            int number = k;
            scenes[0].dueThrow("forget(" + k + ") of none", x -> x.forget(number),
                    IllegalArgumentException.class);
            check.due("forget(" + k + ") of four", scenes[2].made().forget(k), 3);
        }
        scenes[1].dueThrow("forget(0), never there", x -> x.forget(0), IllegalArgumentException.class);
        scenes[1].dueThrow("forget(3), never there", x -> x.forget(3), IllegalArgumentException.class);
        check.due("forget(1)", scenes[1].made().forget(1), 1);
        check.due("forget(2)", scenes[1].made().forget(2), 1);
        Twins forgotten = new Twins(check, x -> {
            Scenes.busy(x);
            x.forget(2);
        });
        forgotten.dueThrow("forget(2), no longer there", x -> x.forget(2), IllegalArgumentException.class);
    }

    private int answer(PortTranslator x, int kind, int to) {
        return Packets.route(x, true, Scenes.first(kind, HOST, 5, to, 9));
    }

    /** At first there are none. */
    private void atFirstThereAreNone() {
        for (int kind : KINDS) {
            check.due("kind " + kind, answer(new PortTranslator(), kind, SERVER), 0);
        }
        check.due("the first rule", new PortTranslator().rule(3, 0, 0, 0, true), 1);
    }

    /** RULES have a kind (0: any). */
    private void kind0IsAny() {
        for (int of : new int[] {0, 1, 6, 17}) {
            for (int kind : KINDS) {
                PortTranslator x = new PortTranslator();
                x.rule(0, of, SERVER, 32, false);
                check.due("kind " + kind + " by a rule of " + of, answer(x, kind, SERVER),
                        of == 0 || of == kind ? 5 : 0);
                check.due("flows()", x.flows(), of == 0 || of == kind ? 0 : 1);
            }
        }
    }

    /** A NETWORK (an address and how many of its highest bits count). */
    private void networksOfEveryWidth() {
        int network = Packets.address(171, 205, 17, 102);
        for (int bits = 0; bits <= 32; bits++) {
            long size = 1L << (32 - bits);
            long first = (network & 0xffffffffL) / size * size;
            long last = first + size - 1;
            within(network, bits, (int) first, true);
            within(network, bits, (int) last, true);
            if (bits > 0) {
                within(network, bits, (int) (first - 1), false);
                within(network, bits, (int) (last + 1), false);
            }
        }
        within(-1, 32, -1, true);
        within(-1, 32, -2, false);
        within(0, 32, 0, true);
        within(0, 32, 1, false);
        within(Integer.MIN_VALUE, 1, Integer.MAX_VALUE, false);
        within(Integer.MIN_VALUE, 1, -1, true);
        within(0, 1, Integer.MAX_VALUE, true);
        within(0, 1, Integer.MIN_VALUE, false);
        within(0, 0, -1, true);
        within(-1, 0, 0, true);
    }

    private void within(int network, int bits, int address, boolean within) {
        PortTranslator x = new PortTranslator();
        x.rule(1, 0, network, bits, false);
        check.due(address + " by " + bits + " bits of " + network, answer(x, 17, address), within ? 5 : 0);
        PortTranslator y = new PortTranslator();
        y.rule(1, 0, network, bits, true);
        y.rule(2, 0, 0, 0, false);
        check.due(address + " if only " + bits + " bits of " + network + " may", answer(y, 17, address),
                within ? 0 : 5);
    }

    private void networkBitsThatDoNotCount() {
        for (int bits = 0; bits <= 32; bits++) {
            int counting = bits == 0 ? 0 : -1 << (32 - bits);
            within(SERVER & counting, bits, SERVER, true);
            within(SERVER | ~counting, bits, SERVER, true);
        }
    }

    /** As the first rule says (by number) that has its kind and a network in which its outer address is. */
    private void firstRuleByNumber() {
        for (int first = 0; first < 4; first++) {
            for (int second = first + 1; second < 4; second++) {
                for (boolean permits : new boolean[] {true, false}) {
                    PortTranslator x = new PortTranslator();
                    // Which of them was made first does not count.
                    x.rule(second, 17, SERVER, 32, !permits);
                    x.rule(first, 0, SERVER, 8, permits);
                    check.due("rule " + first + " before " + second, answer(x, 17, SERVER), permits ? 0 : 5);
                    PortTranslator y = new PortTranslator();
                    y.rule(first, 6, SERVER, 8, permits);
                    y.rule(second, 17, SERVER, 32, !permits);
                    check.due("a rule of another kind before", answer(y, 17, SERVER), permits ? 5 : 0);
                    PortTranslator z = new PortTranslator();
                    z.rule(first, 17, SERVER + 1, 32, permits);
                    z.rule(second, 17, SERVER, 32, !permits);
                    check.due("a rule of another network before", answer(z, 17, SERVER), permits ? 5 : 0);
                }
            }
        }
    }

    /** And permitted if there is none. */
    private void permittedIfThereIsNone() {
        PortTranslator x = new PortTranslator();
        x.rule(0, 17, SERVER, 32, false);
        x.rule(1, 6, SERVER + 1, 32, false);
        x.rule(2, 1, SERVER + 2, 32, false);
        x.rule(3, 0, SERVER + 3, 32, false);
        int[] refused = {17, 6, 1};
        for (int i = 0; i < 5; i++) {
            for (int kind : KINDS) {
                boolean by = i == 3 || i < 3 && refused[i] == kind;
                check.due("kind " + kind + " to the address + " + i, answer(x, kind, SERVER + i), by ? 5 : 0);
            }
        }
        for (int k = 0; k < 4; k++) {
            x.forget(k);
        }
        check.due("without any rule", Packets.route(x, true, Packets.udp(HOST, 5, SERVER, 10)), 0);
    }

    private void rulesAreOfTheOuterAddress() {
        PortTranslator x = new PortTranslator();
        x.rule(0, 0, HOST, 24, false);
        x.rule(1, 0, Packets.OWN, 32, false);
        check.due("rules about the inside and the own", answer(x, 17, SERVER), 0);
    }

    /** A new flow is permitted as ..: those that are there need no permission. */
    private void rulesLeaveFlowsAlone() {
        Twins closed = new Twins(check, x -> {
            Scenes.oneOfEach(x);
            x.rule(0, 0, 0, 0, false);
        });
        int[][] out = {Scenes.udpOut(), Scenes.tcpOut(Packets.SYN), Scenes.echoOut(Packets.REQUEST),
            Scenes.errorOut(17), Scenes.errorOut(6), Scenes.errorOut(1)};
        int[][] in = {Scenes.udpIn(), Scenes.tcpIn(Packets.ACK), Scenes.echoIn(Packets.REPLY),
            Scenes.errorIn(17), Scenes.errorIn(6), Scenes.errorIn(1)};
        for (int k = 0; k < out.length; k++) {
            closed.due("packet " + k + " out", true, out[k], 0);
            closed.due("packet " + k + " in", false, in[k], 0);
        }
        for (int kind : KINDS) {
            closed.due("a new flow of kind " + kind, true, Scenes.first(kind, HOST, 5, SERVER, 9), 5);
        }
        check.due("flows()", closed.made().flows(), 3);
    }
}
