/** Promises 8 and 9: rule and forget. */
final class RuleTest {
    private static final int HOST = Packets.HOST;
    private static final int SERVER = Packets.SERVER;

    private final Check check = new Check();

    private RuleTest() {
    }

    public static void main(String[] args) {
        RuleTest test = new RuleTest();
        test.counts();
        test.wrongOnes();
        test.networks();
        test.kinds();
        test.firstOneSays();
        test.onlyNewFlowsNeedRules();
        test.check.end();
    }

    private int[] udp(int to) {
        return Packets.udp(HOST, 5000, to, 53);
    }

    private void counts() {
        PortTranslator x = new PortTranslator();
        check.due("rule(2)", x.rule(2, 0, 0, 0, true), 1);
        check.due("rule(2) again", x.rule(2, 6, 1, 32, false), 1);
        check.due("rule(0)", x.rule(0, 1, -1, 1, true), 2);
        check.due("rule(3)", x.rule(3, 17, 5, 31, true), 3);
        check.due("rule(1)", x.rule(1, 6, 5, 31, false), 4);
        check.due("forget(0)", x.forget(0), 3);
        check.due("forget(3)", x.forget(3), 2);
        check.due("rule(3) back", x.rule(3, 17, 5, 31, true), 3);
        check.due("forget(1)", x.forget(1), 2);
        check.due("forget(2)", x.forget(2), 1);
        check.due("forget(3)", x.forget(3), 0);
    }

    private void wrongOnes() {
        PortTranslator x = new PortTranslator();
        x.rule(1, 17, SERVER, 32, false);
        for (int k : new int[] {-1, 4, 5, Integer.MIN_VALUE, Integer.MAX_VALUE}) {
            check.dueThrow("rule(" + k + ")", () -> x.rule(k, 0, 0, 0, true), IllegalArgumentException.class);
            check.dueThrow("forget(" + k + ")", () -> x.forget(k), IllegalArgumentException.class);
        }
        for (int kind = -1; kind < 300; kind++) {
            int some = kind;
            if (kind != 0 && kind != 1 && kind != 6 && kind != 17) {
                check.dueThrow("rule of kind " + kind, () -> x.rule(1, some, 0, 0, true),
                        IllegalArgumentException.class);
            }
        }
        for (int bits : new int[] {-1, 33, 64, Integer.MIN_VALUE, Integer.MAX_VALUE}) {
            check.dueThrow("rule of " + bits + " bits", () -> x.rule(1, 0, 0, bits, true),
                    IllegalArgumentException.class);
            check.dueThrow("rule 0 of " + bits + " bits", () -> x.rule(0, 0, 0, bits, true),
                    IllegalArgumentException.class);
        }
        check.due("the rule is as it was", Packets.route(x, true, udp(SERVER)), 5);
        check.dueThrow("forget(0), never there", () -> x.forget(0), IllegalArgumentException.class);
        check.due("forget(1)", x.forget(1), 0);
        check.dueThrow("forget(1) again", () -> x.forget(1), IllegalArgumentException.class);
        check.due("permitted then", Packets.route(x, true, udp(SERVER)), 0);
    }

    private void networks() {
        int network = Packets.address(170, 85, 204, 51);
        for (int bits = 0; bits <= 32; bits++) {
            within("the address itself", network, bits, network, true);
            for (int bit = 1; bit <= 32; bit++) {
                // The bit-th highest one differs: it counts if it is among the highest bits.
                within("bit " + bit, network, bits, network ^ 1 << (32 - bit), bit > bits);
            }
        }
        within("the least int", Integer.MIN_VALUE, 1, -1, true);
        within("the least int", Integer.MIN_VALUE, 1, Integer.MAX_VALUE, false);
        within("0", 0, 32, 0, true);
    }

    private void within(String what, int network, int bits, int address, boolean within) {
        PortTranslator x = new PortTranslator();
        x.rule(3, 0, network, bits, false);
        check.due(what + " in a network of " + bits + " bits", Packets.route(x, true, udp(address)),
                within ? 5 : 0);
    }

    private void kinds() {
        for (int kind : new int[] {0, 1, 6, 17}) {
            PortTranslator x = new PortTranslator();
            x.rule(0, kind, SERVER, 24, false);
            check.due("UDP", Packets.route(x, true, udp(SERVER)), kind == 0 || kind == 17 ? 5 : 0);
            check.due("TCP", Packets.route(x, true, Packets.tcp(HOST, 1, SERVER, 2, Packets.SYN)),
                    kind == 0 || kind == 6 ? 5 : 0);
            check.due("ECHO", Packets.route(x, true, Packets.echo(Packets.REQUEST, HOST, SERVER, 3)),
                    kind == 0 || kind == 1 ? 5 : 0);
            check.due("flows()", x.flows(), kind == 0 ? 0 : 2);
        }
    }

    private void firstOneSays() {
        PortTranslator x = new PortTranslator();
        x.rule(3, 0, 0, 0, false);
        check.due("3 refuses", Packets.route(x, true, udp(SERVER)), 5);
        x.rule(2, 17, SERVER, 24, true);
        check.due("2 permits", Packets.route(x, true, udp(SERVER)), 0);
        check.due("2 is of another network", Packets.route(x, true, udp(Packets.OTHER_SERVER)), 5);
        x.rule(1, 6, SERVER, 24, false);
        check.due("1 is of another kind", Packets.route(x, true, udp(SERVER + 1)), 0);
        x.rule(0, 0, SERVER, 8, false);
        check.due("0 refuses", Packets.route(x, true, udp(SERVER + 2)), 5);
        x.rule(0, 0, SERVER, 8, true);
        check.due("0 permits as another one", Packets.route(x, true, udp(SERVER + 3)), 0);
        x.forget(0);
        x.forget(2);
        check.due("3 refuses again", Packets.route(x, true, udp(SERVER + 4)), 5);
        x.forget(3);
        check.due("no rule of this kind", Packets.route(x, true, udp(SERVER + 4)), 0);
    }

    private void onlyNewFlowsNeedRules() {
        PortTranslator x = new PortTranslator();
        Packets.route(x, true, udp(SERVER));
        x.rule(0, 0, 0, 0, false);
        check.due("out of a flow that there is", Packets.route(x, true, udp(SERVER)), 0);
        check.due("in", Packets.route(x, false, Packets.udp(SERVER, 53, Packets.OWN, 40000)), 0);
        check.due("an error out", Packets.route(x, true, Packets.error(3, HOST, SERVER,
                Packets.udp(SERVER, 53, HOST, 5000))), 0);
        check.due("a new flow", Packets.route(x, true, udp(SERVER + 1)), 5);
        x.tick(31);
        check.due("the same flow, ended", Packets.route(x, true, udp(SERVER)), 5);
        for (int i = 0; i < 6; i++) {
            x.rule(0, 0, 0, 0, true);
            Packets.route(x, true, Packets.udp(HOST, i, SERVER, 53));
            x.rule(0, 0, 0, 0, false);
        }
        check.due("refused before the ports are asked",
                Packets.route(x, true, Packets.udp(HOST, 6, SERVER, 53)), 5);
        // What counts is where the packet goes, not where it is from.
        x.tick(31);
        x.rule(0, 0, HOST, 24, false);
        check.due("a rule about the inside", Packets.route(x, true, udp(SERVER)), 0);
    }
}
