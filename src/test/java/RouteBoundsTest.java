import java.util.Arrays;

/** The boundaries of routing: times, the order of the answers, what is of a flow, flags. */
final class RouteBoundsTest {
    private static final int HOST = Packets.HOST;
    private static final int OTHER_HOST = Packets.OTHER_HOST;
    private static final int SERVER = Packets.SERVER;
    private static final int OTHER_SERVER = Packets.OTHER_SERVER;
    private static final int OWN = Packets.OWN;
    private static final int[] KINDS = {6, 17, 1};
    private static final int[][] OUT = {Scenes.udpOut(), Scenes.tcpOut(Packets.ACK),
        Scenes.echoOut(Packets.REQUEST), Scenes.errorOut(17), Scenes.errorOut(6), Scenes.errorOut(1)};
    private static final int[][] IN = {Scenes.udpIn(), Scenes.tcpIn(Packets.ACK),
        Scenes.echoIn(Packets.REPLY), Scenes.errorIn(17), Scenes.errorIn(6), Scenes.errorIn(1)};

    private final Check check = new Check();
    private final Twins fresh = new Twins(check, Scenes::fresh);
    private final Twins flows = new Twins(check, Scenes::oneOfEach);
    private final Twins busy = new Twins(check, Scenes::busy);
    private final Twins full = new Twins(check, Scenes::full);

    private RouteBoundsTest() {
    }

    public static void main(String[] args) {
        RouteBoundsTest test = new RouteBoundsTest();
        test.emptyDraft();
        test.timeIs2OrMore();
        test.timeIsOneLess();
        test.malformedComesBeforeTime();
        test.timeComesBeforeAddresses();
        test.addressesComeBeforeRoom();
        test.refusalsComeBeforeRoom();
        test.whatIsOfAFlowNeedsNoRoom();
        test.outIsOfTheFlowWithAllOfIt();
        test.inIsOfTheFlowWithAllOfIt();
        test.errorOutIsOfTheFlowOfTheOtherPacket();
        test.errorOutIsFromTheInnerAddress();
        test.errorInIsOfTheFlowOfTheOtherPacket();
        test.newTcpFlowHasSynAlone();
        test.newEchoFlowIsARequest();
        test.echoComesInAsReply();
        test.flagsOfEveryForm();
        test.resetEndsTheFlow();
        test.latestStaysKnown();
        test.check.end();
    }

    /** 1 it is malformed: the empty draft is, in every state. */
    private void emptyDraft() {
        for (Twins some : new Twins[] {fresh, flows, busy, full}) {
            some.dueBothWays("an empty draft", new int[0], 1);
        }
    }

    private static int[] aged(int[] packet, int time) {
        return Packets.with(packet, 4, time << 8 | packet[4] & 255);
    }

    /** 3 its time is less than 2. */
    private void timeIs2OrMore() {
        for (int k = 0; k < OUT.length; k++) {
            for (int time : new int[] {0, 1, 2, 3, 127, 128, 255}) {
                busy.due("time " + time + ", out " + k, true, aged(OUT[k], time), time < 2 ? 3 : 0);
                busy.due("time " + time + ", in " + k, false, aged(IN[k], time), time < 2 ? 3 : 0);
            }
        }
        for (int kind : KINDS) {
            int[] first = Scenes.first(kind, HOST, 5, SERVER, 9);
            fresh.due("a new flow at time 1", true, aged(first, 1), 3);
            fresh.due("a new flow at time 2", true, aged(first, 2), 0);
        }
    }

    /** 0 it is ROUTED: its time is one less. */
    private void timeIsOneLess() {
        for (int k = 0; k < OUT.length; k++) {
            for (int time : new int[] {2, 3, 128, 255}) {
                PortTranslator x = flows.made();
                check.due("out", Packets.route(x, true, aged(OUT[k], time)), 0);
                check.due("at(4) of time " + time, x.at(4), (time - 1) << 8 | OUT[k][4] & 255);
                check.due("in", Packets.route(x, false, aged(IN[k], time)), 0);
                check.due("at(4) of time " + time, x.at(4), (time - 1) << 8 | IN[k][4] & 255);
            }
        }
    }

    /** Routing ends with the first of these answers. */
    private void malformedComesBeforeTime() {
        for (int k = 0; k < OUT.length; k++) {
            int[] out = aged(OUT[k], 1);
            int[] in = aged(IN[k], 1);
            busy.due("malformed and time 1, out", true, Packets.broken(out, 5, out[5] ^ 1), 1);
            busy.due("malformed and time 1, in", false, Packets.broken(in, 5, in[5] ^ 1), 1);
            busy.due("malformed and out for in", false, Packets.broken(OUT[k], 5, OUT[k][5] ^ 1), 1);
            busy.due("malformed and in for out", true, Packets.broken(IN[k], 5, IN[k][5] ^ 1), 1);
        }
        int[] first = Packets.udp(HOST, 700, SERVER, 9, 1);
        full.due("malformed and no room", true, Packets.broken(first, 14, 2), 1);
        full.due("time 1 and no room", true, aged(first, 1), 3);
        full.due("time 2 and no room", true, aged(first, 2), 6);
    }

    private void timeComesBeforeAddresses() {
        for (int k = 0; k < OUT.length; k++) {
            for (int time : new int[] {1, 2}) {
                busy.due("out for in at time " + time, false, aged(OUT[k], time), time < 2 ? 3 : 5);
                busy.due("in for out at time " + time, true, aged(IN[k], time), time < 2 ? 3 : 5);
            }
        }
    }

    private void addressesComeBeforeRoom() {
        for (int kind : KINDS) {
            full.due("to the own, no room", true, Scenes.first(kind, HOST, 700, OWN, 9), 5);
            full.due("to the inside, no room", true, Scenes.first(kind, HOST, 700, OTHER_HOST, 9), 5);
            full.due("from outside, no room", true, Scenes.first(kind, SERVER, 700, OTHER_SERVER, 9), 5);
            full.due("right addresses, no room", true, Scenes.first(kind, HOST, 700, SERVER, 9), 6);
        }
    }

    /** 5 if it is ECHO with w10 0, or of kind 6 unless .., or the rules do not permit it; 6 if .. */
    private void refusalsComeBeforeRoom() {
        full.due("ECHO with w10 0", true, Packets.echo(Packets.REPLY, HOST, SERVER, 700), 5);
        full.due("ECHO with w10 2048", true, Packets.echo(Packets.REQUEST, HOST, SERVER, 700), 6);
        full.due("TCP with ACK", true, Packets.tcp(HOST, 700, SERVER, 9, Packets.SYN | Packets.ACK), 5);
        full.due("TCP with SYN", true, Packets.tcp(HOST, 700, SERVER, 9, Packets.SYN), 6);
        // Rule 0 is of OTHER_SERVER alone, rule 3 of its neighbours, too.
        full.due("not permitted by rule 0", true, Packets.tcp(HOST, 700, OTHER_SERVER, 9, Packets.SYN), 5);
        full.due("not permitted by rule 3", true, Scenes.first(1, HOST, 700, OTHER_SERVER, 9), 5);
        full.due("permitted by rule 1", true, Scenes.first(17, HOST, 700, OTHER_SERVER, 9), 6);
        full.due("permitted by none", true, Scenes.first(1, HOST, 700, 1, 9), 6);
        full.due("an error of no flow", true, Packets.error(3, HOST, SERVER,
                Packets.udp(SERVER, 53, HOST, 700)), 5);
        full.due("in by no flow", false, Packets.udp(SERVER, 55, OWN, 40000), 5);
    }

    private void whatIsOfAFlowNeedsNoRoom() {
        Twins closed = new Twins(check, x -> {
            Scenes.full(x);
            x.rule(0, 0, 0, 0, false);
        });
        for (int i = 0; i < Scenes.OWN_PORTS; i++) {
            closed.due("out by flow " + i, true, Packets.udp(HOST, 5000 + i, SERVER, 54), 0);
            closed.due("in by flow " + i, false, Packets.udp(SERVER, 53, OWN, 40000 + i), 0);
            closed.due("an error out about flow " + i, true, Packets.error(3, HOST, OTHER_SERVER,
                    Packets.udp(SERVER, 54, HOST, 5000 + i)), 0);
            closed.due("an error in about flow " + i, false, Packets.error(3, OTHER_SERVER, OWN,
                    Packets.udp(OWN, 40000 + i, SERVER, 53)), 0);
        }
        closed.due("a new flow, not permitted", true, Packets.udp(HOST, 5000, SERVER, 55), 5);
    }

    /** It is OF the flow with its kind, from and to (addresses and ports). */
    private void outIsOfTheFlowWithAllOfIt() {
        flows.due("TCP of the flow", true, Scenes.tcpOut(Packets.ACK), 0);
        int ack = Packets.ACK;
        flows.due("the address from", true, Packets.tcp(HOST + 1, 6000, SERVER, 80, ack), 5);
        flows.due("the port from", true, Packets.tcp(HOST, 6001, SERVER, 80, ack), 5);
        flows.due("the address to", true, Packets.tcp(HOST, 6000, SERVER + 1, 80, ack), 5);
        flows.due("the higher word to", true, Packets.tcp(HOST, 6000, SERVER + 65536, 80, ack), 5);
        flows.due("the port to", true, Packets.tcp(HOST, 6000, SERVER, 81, ack), 5);
        flows.due("the kind", true, Packets.tcp(HOST, 5000, SERVER, 53, ack), 5);
        int reply = Packets.REPLY;
        flows.due("ECHO of the flow", true, Scenes.echoOut(reply), 0);
        flows.due("ECHO from another address", true, Packets.echo(reply, HOST + 1, SERVER, 77), 5);
        flows.due("ECHO with another port", true, Packets.echo(reply, HOST, SERVER, 78), 5);
        flows.due("ECHO to another address", true, Packets.echo(reply, HOST, SERVER + 1, 77), 5);
        flows.due("ECHO with the port of another kind", true, Packets.echo(reply, HOST, SERVER, 5000), 5);
        PortTranslator x = flows.made();
        check.due("UDP of no flow yet", Packets.route(x, true, Packets.udp(HOST, 6000, SERVER, 80)), 0);
        check.due("flows()", x.flows(), 4);
        check.due("UDP of that flow", Packets.route(x, true, Packets.udp(HOST, 6000, SERVER, 80)), 0);
        check.due("flows()", x.flows(), 4);
    }

    /** IN: it is of the flow with its kind, from (outer) and to (own port). */
    private void inIsOfTheFlowWithAllOfIt() {
        for (int kind : KINDS) {
            int port = kind == 6 ? 80 : 53;
            flows.due("of the flow", false, Scenes.answer(kind, SERVER, port, OWN, 40000), 0);
            flows.due("the address from", false, Scenes.answer(kind, SERVER + 1, port, OWN, 40000), 5);
            flows.due("the higher word from", false, Scenes.answer(kind, SERVER + 65536, port, OWN, 40000), 5);
            flows.due("the own port", false, Scenes.answer(kind, SERVER, port, OWN, 40001), 5);
            flows.due("the inner port", false, Scenes.answer(kind, SERVER, port, OWN,
                    kind == 6 ? 6000 : kind == 17 ? 5000 : 77), 5);
            flows.due("the inner address", false, Scenes.answer(kind, SERVER, port, HOST, 40000), 5);
            fresh.due("no flow at all", false, Scenes.answer(kind, SERVER, port, OWN, 40000), 5);
            fresh.due("no flow, all 0", false, Scenes.answer(kind, 0, 0, OWN, 0), 5);
            flows.due("a flow all 0", false, Scenes.answer(kind, 0, 0, OWN, 0), 5);
            if (kind != 1) {
                flows.due("the port from", false, Scenes.answer(kind, SERVER, port + 1, OWN, 40000), 5);
                flows.due("the kind", false, Scenes.answer(kind, SERVER, 133 - port, OWN, 40000), 5);
            }
        }
    }

    private static int[] errorOut(int from, int[] about) {
        return Packets.error(3, from, OTHER_SERVER, about);
    }

    /** OUT: an error is of the flow of the other packet (from the outer to the inner address and port). */
    private void errorOutIsOfTheFlowOfTheOtherPacket() {
        for (int kind : KINDS) {
            int port = kind == 6 ? 80 : 53;
            int near = kind == 6 ? 6000 : kind == 17 ? 5000 : 77;
            flows.due("about the flow", true, errorOut(HOST, Scenes.answer(kind, SERVER, port, HOST, near)), 0);
            flows.due("about an outer address", true,
                    errorOut(HOST, Scenes.answer(kind, SERVER + 1, port, HOST, near)), 5);
            flows.due("about an inner port", true,
                    errorOut(HOST, Scenes.answer(kind, SERVER, port, HOST, near + 1)), 5);
            flows.due("about the own port", true,
                    errorOut(HOST, Scenes.answer(kind, SERVER, port, HOST, 40000)), 5);
            flows.due("about the own end", true,
                    errorOut(HOST, Scenes.answer(kind, SERVER, port, OWN, 40000)), 5);
            flows.due("about what went out", true,
                    errorOut(HOST, Scenes.first(kind, HOST, near, SERVER, port)), 5);
            fresh.due("about none", true, errorOut(HOST, Scenes.answer(kind, SERVER, port, HOST, near)), 5);
            fresh.due("about a flow all 0", true, errorOut(HOST, Scenes.answer(kind, 0, 0, 0, 0)), 5);
            if (kind != 1) {
                flows.due("about an outer port", true,
                        errorOut(HOST, Scenes.answer(kind, SERVER, port + 1, HOST, near)), 5);
                flows.due("about a kind", true,
                        errorOut(HOST, Scenes.answer(23 - kind, SERVER, port, HOST, near)), 5);
            }
        }
    }

    /** 5 if the inner address is not what it is from. */
    private void errorOutIsFromTheInnerAddress() {
        for (int kind : KINDS) {
            int[] about = Scenes.answer(kind, SERVER, 9, OTHER_HOST, 5);
            Twins two = new Twins(check, x -> {
                Packets.route(x, true, Scenes.first(kind, HOST, 5, SERVER, 9));
                Packets.route(x, true, Scenes.first(kind, OTHER_HOST, 5, SERVER, 9));
            });
            two.due("an error from the inner address", true, errorOut(OTHER_HOST, about), 0);
            two.due("an error from another one with a flow", true, errorOut(HOST, about), 5);
            two.due("an error from the address before", true, errorOut(OTHER_HOST - 1, about), 5);
            two.due("an error from the address behind", true, errorOut(OTHER_HOST + 1, about), 5);
        }
    }

    private static int[] errorIn(int[] about) {
        return Packets.error(3, OTHER_SERVER, OWN, about);
    }

    /** IN: an error is of the flow of the other packet (from the own address and port to the outer ones). */
    private void errorInIsOfTheFlowOfTheOtherPacket() {
        for (int kind : KINDS) {
            int port = kind == 6 ? 80 : 53;
            int near = kind == 6 ? 6000 : kind == 17 ? 5000 : 77;
            flows.due("about the flow", false, errorIn(Scenes.first(kind, OWN, 40000, SERVER, port)), 0);
            flows.due("about before the own", false,
                    errorIn(Scenes.first(kind, OWN - 1, 40000, SERVER, port)), 5);
            flows.due("about behind the own", false,
                    errorIn(Scenes.first(kind, OWN + 1, 40000, SERVER, port)), 5);
            flows.due("about the inner", false, errorIn(Scenes.first(kind, HOST, near, SERVER, port)), 5);
            flows.due("about the inner address", false,
                    errorIn(Scenes.first(kind, HOST, 40000, SERVER, port)), 5);
            flows.due("about the inner port", false, errorIn(Scenes.first(kind, OWN, near, SERVER, port)), 5);
            flows.due("about an own port", false, errorIn(Scenes.first(kind, OWN, 40001, SERVER, port)), 5);
            flows.due("about an outer address", false,
                    errorIn(Scenes.first(kind, OWN, 40000, SERVER - 1, port)), 5);
            flows.due("about what came in", false,
                    errorIn(Scenes.answer(kind, SERVER, port, OWN, 40000)), 5);
            fresh.due("about none", false, errorIn(Scenes.first(kind, OWN, 40000, SERVER, port)), 5);
            fresh.due("about a flow all 0", false, errorIn(Scenes.first(kind, OWN, 0, 0, 0)), 5);
            if (kind != 1) {
                flows.due("about an outer port", false,
                        errorIn(Scenes.first(kind, OWN, 40000, SERVER, port - 1)), 5);
                flows.due("about a kind", false, errorIn(Scenes.first(23 - kind, OWN, 40000, SERVER, port)), 5);
            }
        }
        // Whether the other ECHO asked or answered is not asked.
        flows.due("about ECHO with w10 0", false, errorIn(Packets.echo(Packets.REPLY, OWN, SERVER, 40000)), 0);
    }

    /** 5 if it is of kind 6 unless it has SYN, and neither ACK nor RST; other bits do not count. */
    private void newTcpFlowHasSynAlone() {
        for (int flags = 0; flags < 64; flags++) {
            boolean begins = (flags & Packets.SYN) != 0 && (flags & Packets.ACK) == 0
                    && (flags & Packets.RST) == 0;
            for (int more : new int[] {0, 0xfc0}) {
                fresh.due("a new flow with flags " + (flags | more), true,
                        Scenes.tcpOut(flags | more), begins ? 0 : 5);
            }
        }
    }

    /** 5 if it is ECHO with w10 0 (and there is no such flow). */
    private void newEchoFlowIsARequest() {
        fresh.due("ECHO with w10 0", true, Scenes.echoOut(Packets.REPLY), 5);
        fresh.due("ECHO with w10 2048", true, Scenes.echoOut(Packets.REQUEST), 0);
        flows.due("ECHO with w10 0, with a flow", true, Scenes.echoOut(Packets.REPLY), 0);
        // A word 0 at w10 is the port 0 of other kinds.
        fresh.due("UDP with w10 0", true, Packets.udp(HOST, 0, SERVER, 9), 0);
        fresh.due("TCP with w10 0", true, Packets.tcp(HOST, 0, SERVER, 9, Packets.SYN), 0);
    }

    /** 5 if it is ECHO with w10 2048. */
    private void echoComesInAsReply() {
        flows.due("ECHO with w10 2048, in", false, Scenes.echoIn(Packets.REQUEST), 5);
        flows.due("ECHO with w10 0, in", false, Scenes.echoIn(Packets.REPLY), 0);
        Twins port2048 = new Twins(check, x -> {
            Packets.route(x, true, Packets.udp(HOST, 5, SERVER, 2048));
            Packets.route(x, true, Packets.tcp(HOST, 5, SERVER, 2048, Packets.SYN));
        });
        port2048.due("UDP with w10 2048, in", false, Packets.udp(SERVER, 2048, OWN, 40000), 0);
        port2048.due("TCP with w10 2048, in", false,
                Packets.tcp(SERVER, 2048, OWN, 40000, Packets.ACK), 0);
    }

    /** With SYN and ACK, IN: SYN came back; with FIN: it went out, or came in. */
    private void flagsOfEveryForm() {
        for (int flags = 0; flags < 64; flags++) {
            if ((flags & Packets.RST) == 0) {
                boolean both = (flags & Packets.SYN) != 0 && (flags & Packets.ACK) != 0;
                boolean fin = (flags & Packets.FIN) != 0;
                PortTranslator x = flows.made();
                check.due("in with flags " + flags, Packets.route(x, false, Scenes.tcpIn(flags)), 0);
                check.due("flow(1, 7)", x.flow(1, 7), (both ? 1 : 0) + (fin ? 4 : 0));
                PortTranslator y = flows.made();
                check.due("out with flags " + flags, Packets.route(y, true, Scenes.tcpOut(flags)), 0);
                check.due("flow(1, 7)", y.flow(1, 7), fin ? 2 : 0);
            }
        }
    }

    /** With RST the flow ends. */
    private void resetEndsTheFlow() {
        for (int flags = 0; flags < 64; flags++) {
            int left = (flags & Packets.RST) == 0 ? 3 : 2;
            PortTranslator x = flows.made();
            check.due("out", Packets.route(x, true, Scenes.tcpOut(flags)), 0);
            check.due("flows() with flags " + flags + " out", x.flows(), left);
            check.due("bindings(6)", x.bindings(6), left - 2);
            check.due("at(10)", x.at(10), 40000);
            PortTranslator y = flows.made();
            check.due("in", Packets.route(y, false, Scenes.tcpIn(flags)), 0);
            check.due("flows() with flags " + flags + " in", y.flows(), left);
            check.due("at(11)", y.at(11), 6000);
            check.due("in once more", Packets.route(y, false, Scenes.tcpIn(Packets.ACK)), left == 3 ? 0 : 5);
        }
        flows.due("RST of no flow, out", true, Packets.tcp(HOST, 6000, SERVER, 81, Packets.RST), 5);
        flows.due("RST of no flow, in", false, Packets.tcp(SERVER, 81, OWN, 40000, Packets.RST), 5);
        int[] about = Packets.tcp(OWN, 40000, SERVER, 80, Packets.RST);
        PortTranslator x = flows.made();
        check.due("an error about RST", Packets.route(x, false, errorIn(about)), 0);
        check.due("flows() after it", x.flows(), 3);
    }

    /** What was routed latest stays known, if the answer is not 0; the draft is empty then. */
    private void latestStaysKnown() {
        int[][] refused = {new int[0], Packets.broken(OUT[0], 13, 1), aged(OUT[0], 1),
            Scenes.udpIn(), Packets.udp(HOST, 9999, SERVER, 9)};
        int[] answers = {1, 1, 3, 5, 6};
        for (int k = 0; k < refused.length; k++) {
            PortTranslator x = full.made();
            int[] before = Packets.latest(x);
            check.due("the answer", Packets.route(x, true, refused[k]), answers[k]);
            check.due("what stays", Arrays.equals(before, Packets.latest(x)), true);
            check.due("the draft after answer " + answers[k], x.route(true), 1);
            check.due("a whole draft after that", Packets.route(x, true, OUT[0]), 0);
            check.due("the draft after answer 0", x.route(true), 1);
            check.due("length()", x.length(), 14);
        }
    }
}
