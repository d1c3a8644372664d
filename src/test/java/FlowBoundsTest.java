/** The boundaries of "Terms" about flows: how many, their bindings, own ports, and how long they live. */
final class FlowBoundsTest {
    private static final int HOST = Packets.HOST;
    private static final int OTHER_HOST = Packets.OTHER_HOST;
    private static final int SERVER = Packets.SERVER;
    private static final int OTHER_SERVER = Packets.OTHER_SERVER;
    private static final int OWN = Packets.OWN;
    private static final int[] KINDS = {6, 17, 1};

    private final Check check = new Check();

    private FlowBoundsTest() {
    }

    public static void main(String[] args) {
        FlowBoundsTest test = new FlowBoundsTest();
        for (int kind : KINDS) {
            test.atMost12FlowsOfOneBinding(kind);
            test.sixBindings(kind);
            test.portsOfOtherKindsAreFree(kind);
            test.leastPortThatIsFree(kind);
            test.bindingLastsAsLongAsAFlow(kind);
            test.bindingIsOfKindAddressAndPort(kind);
            test.roomAgainWhenOneEnds(kind);
        }
        test.atMost12FlowsOfAllKinds();
        test.outerPortIs0OfKind1();
        test.livesAndOneTickMore();
        test.tcpLifeChanges();
        test.ageIsThatOfTheLastPacket();
        test.severalEndInOneTick();
        test.firstMiddleAndLastOf12End();
        test.newFlowHasNothingOfThePast();
        test.check.end();
    }

    private void dueRouted(String what, PortTranslator x, boolean out, int[] packet) {
        check.due(what, Packets.route(x, out, packet), 0);
    }

    private static void begin(PortTranslator x, int kind, int port, int to) {
        Packets.route(x, true, Scenes.first(kind, HOST, port, to, 9));
    }

    /** At most 12 are there: with one binding for all, as the ports would end sooner. */
    private void atMost12FlowsOfOneBinding(int kind) {
        Twins eleven = new Twins(check, x -> {
            for (int i = 0; i < 11; i++) {
                begin(x, kind, 5, SERVER + i);
            }
        });
        eleven.due("the 12th flow of kind " + kind, true, Scenes.first(kind, HOST, 5, SERVER + 11, 9), 0);
        Twins twelve = new Twins(check, x -> {
            for (int i = 0; i < 12; i++) {
                begin(x, kind, 5, SERVER + i);
            }
            x.tick(1);
        });
        check.due("flows()", twelve.made().flows(), 12);
        check.due("bindings(" + kind + ")", twelve.made().bindings(kind), 1);
        twelve.due("the 13th flow, with a binding", true, Scenes.first(kind, HOST, 5, SERVER + 12, 9), 6);
        for (int other : KINDS) {
            twelve.due("the 13th flow, without a binding", true, Scenes.first(other, HOST, 6, SERVER, 9), 6);
        }
        twelve.due("a flow that there is", true, Scenes.first(kind, HOST, 5, SERVER + 11, 9), 0);
        twelve.due("its answer", false, Scenes.answer(kind, SERVER + 11, 9, OWN, 40000), 0);
        twelve.due("the answer to none", false, Scenes.answer(kind, SERVER + 12, 9, OWN, 40000), 5);
        twelve.due("an error about the last", true, Packets.error(3, HOST, SERVER,
                Scenes.answer(kind, SERVER + 11, 9, HOST, 5)), 0);
    }

    private static void fourOfEach(PortTranslator x) {
        for (int i = 0; i < 4; i++) {
            for (int kind : KINDS) {
                begin(x, kind, 5 + i, SERVER);
            }
        }
        x.tick(1);
    }

    private void atMost12FlowsOfAllKinds() {
        Twins twelve = new Twins(check, FlowBoundsTest::fourOfEach);
        check.due("flows()", twelve.made().flows(), 12);
        for (int kind : KINDS) {
            check.due("bindings(" + kind + ")", twelve.made().bindings(kind), 4);
            twelve.due("a 13th flow with a binding", true, Scenes.first(kind, HOST, 5, OTHER_SERVER, 9), 6);
            twelve.due("a 13th flow with a port free", true, Scenes.first(kind, HOST, 77, SERVER, 9), 6);
        }
    }

    /** 6 if its kind, from address and port have no binding, and no port of its own is free. */
    private void sixBindings(int kind) {
        Twins five = new Twins(check, x -> beginMany(x, kind, 5));
        five.due("the 6th binding of kind " + kind, true, Scenes.first(kind, HOST, 105, SERVER, 9), 0);
        Twins six = new Twins(check, x -> {
            beginMany(x, kind, 6);
            x.tick(1);
        });
        check.due("bindings(" + kind + ")", six.made().bindings(kind), 6);
        six.due("the 7th binding", true, Scenes.first(kind, HOST, 106, SERVER, 9), 6);
        six.due("the 7th binding, of another host", true, Scenes.first(kind, OTHER_HOST, 100, SERVER, 9), 6);
        for (int i = 0; i < 6; i++) {
            PortTranslator x = six.made();
            dueRouted("a flow with the binding " + i, x, true,
                    Scenes.first(kind, HOST, 100 + i, OTHER_SERVER, 9));
            check.due("its own port", x.flow(6, 5), 40000 + i);
            check.due("bindings(" + kind + ") still", x.bindings(kind), 6);
        }
    }

    private static void beginMany(PortTranslator x, int kind, int bindings) {
        for (int i = 0; i < bindings; i++) {
            begin(x, kind, 100 + i, SERVER);
        }
    }

    /** No port of its own is free for its kind: those of other kinds do not count. */
    private void portsOfOtherKindsAreFree(int kind) {
        for (int other : KINDS) {
            if (other != kind) {
                PortTranslator x = new PortTranslator();
                beginMany(x, kind, 6);
                dueRouted("kind " + other + " beside " + kind, x, true,
                        Scenes.first(other, HOST, 100, SERVER, 9));
                check.due("its own port", x.flow(6, 5), 40000);
                check.due("bindings(" + other + ")", x.bindings(other), 1);
                check.due("bindings(" + kind + ")", x.bindings(kind), 6);
            }
        }
    }

    /** With the least own port that is free: any one of the six may be it. */
    private void leastPortThatIsFree(int kind) {
        for (int free = 0; free < 6; free++) {
            for (int alsoFree = free; alsoFree < 6; alsoFree++) {
                PortTranslator x = new PortTranslator();
                beginMany(x, kind, 6);
                endOnly(x, kind, free, alsoFree);
                dueRouted("a port is free", x, true, Scenes.first(kind, HOST, 200, SERVER, 9));
                check.due("the least of " + free + " and " + alsoFree, x.flow(x.flows() - 1, 5), 40000 + free);
                check.due("another one is free",
                        Packets.route(x, true, Scenes.first(kind, HOST, 201, SERVER, 9)),
                        alsoFree == free ? 6 : 0);
                check.due("flows()", x.flows(), 6);
                check.due("the own port of the last", x.flow(5, 5), 40000 + alsoFree);
            }
        }
    }

    /** Lets the flows of beginMany age so that only these two, or this one, end. */
    private static void endOnly(PortTranslator x, int kind, int one, int two) {
        int life = kind == 17 ? 30 : kind == 6 ? 12 : 6;
        x.tick(life);
        for (int i = 0; i < 6; i++) {
            if (i != one && i != two) {
                begin(x, kind, 100 + i, SERVER);
            }
        }
        x.tick(1);
    }

    /** Which no flow of its kind has: a port is free when the last flow of its binding has ended. */
    private void bindingLastsAsLongAsAFlow(int kind) {
        int life = kind == 17 ? 30 : kind == 6 ? 12 : 6;
        PortTranslator x = new PortTranslator();
        begin(x, kind, 5, SERVER);
        x.tick(1);
        begin(x, kind, 5, OTHER_SERVER);
        check.due("the first flow ends", x.tick(life), 1);
        check.due("bindings(" + kind + ")", x.bindings(kind), 1);
        begin(x, kind, 6, SERVER);
        check.due("the port is not free", x.flow(1, 5), 40001);
        begin(x, kind, 5, SERVER);
        check.due("the binding is the same", x.flow(2, 5), 40000);
        PortTranslator y = new PortTranslator();
        begin(y, kind, 5, SERVER);
        begin(y, kind, 5, OTHER_SERVER);
        check.due("both end", y.tick(life + 1), 2);
        check.due("bindings(" + kind + ") then", y.bindings(kind), 0);
        begin(y, kind, 6, SERVER);
        check.due("the port is free", y.flow(0, 5), 40000);
        begin(y, kind, 5, SERVER);
        check.due("the binding is another one", y.flow(1, 5), 40001);
    }

    /** The flows with one kind, inner address and port have one own port, those with others other ones. */
    private void bindingIsOfKindAddressAndPort(int kind) {
        PortTranslator x = new PortTranslator();
        begin(x, kind, 5, SERVER);
        begin(x, kind, 5, OTHER_SERVER);
        begin(x, kind, 6, SERVER);
        Packets.route(x, true, Scenes.first(kind, OTHER_HOST, 5, SERVER, 9));
        Packets.route(x, true, Scenes.first(kind, HOST, 5, SERVER, 10));
        check.due("another outer address", x.flow(1, 5), 40000);
        check.due("another inner port", x.flow(2, 5), 40001);
        check.due("another inner address", x.flow(3, 5), 40002);
        // Kind 1 has no outer port, so there it is the flow that was there.
        check.due("flows()", x.flows(), kind == 1 ? 4 : 5);
        check.due("another outer port", kind == 1 ? 40000 : x.flow(4, 5), 40000);
        check.due("bindings(" + kind + ")", x.bindings(kind), 3);
        for (int other : KINDS) {
            check.due("bindings(" + other + ")", x.bindings(other), other == kind ? 3 : 0);
        }
    }

    private void roomAgainWhenOneEnds(int kind) {
        PortTranslator x = new PortTranslator();
        for (int i = 0; i < 11; i++) {
            begin(x, 17, 5, SERVER + i);
        }
        Packets.route(x, true, Scenes.tcpOut(Packets.SYN));
        check.due("a 13th flow", Packets.route(x, true, Scenes.first(kind, HOST, 8, SERVER, 9)), 6);
        dueRouted("RST", x, true, Scenes.tcpOut(Packets.RST));
        check.due("flows()", x.flows(), 11);
        dueRouted("a 12th flow again", x, true, Scenes.first(kind, HOST, 8, SERVER, 9));
        check.due("flows()", x.flows(), 12);
        check.due("its kind", x.flow(11, 0), kind);
        check.due("one more", Packets.route(x, true, Scenes.first(kind, HOST, 8, OTHER_SERVER, 9)), 6);
    }

    /** An OUTER address and port (0 of kind 1). */
    private void outerPortIs0OfKind1() {
        PortTranslator x = new PortTranslator();
        // w13 and w11 are no ports there.
        Packets.route(x, true, Packets.with(Scenes.echoOut(Packets.REQUEST), 13, 4711));
        check.due("flow(0, 4)", x.flow(0, 4), 0);
        Packets.route(x, true, Packets.with(Scenes.echoOut(Packets.REQUEST), 13, 4712));
        check.due("flows()", x.flows(), 1);
        dueRouted("its answer", x, false, Packets.with(Scenes.echoIn(Packets.REPLY), 13, 4713));
        Packets.route(x, true, Packets.udp(HOST, 77, SERVER, 0));
        Packets.route(x, true, Packets.udp(HOST, 77, SERVER, 65535));
        check.due("flow(1, 4) of kind 17", x.flow(1, 4), 0);
        check.due("flow(2, 4) of kind 17", x.flow(2, 4), 65535);
    }

    /** LIFE: 6 ticks of kind 1, 30 of 17; of 6, 100 when SYN came back and not both FIN .., else 12. */
    private void livesAndOneTickMore() {
        int syn = Packets.SYN;
        int back = Packets.SYN | Packets.ACK;
        int fin = Packets.FIN | Packets.ACK;
        lives("ECHO", 6, Scenes.echoOut(Packets.REQUEST));
        lives("ECHO, answered", 6, Scenes.echoOut(Packets.REQUEST), Scenes.echoIn(Packets.REPLY));
        lives("UDP", 30, Scenes.udpOut());
        lives("UDP, answered", 30, Scenes.udpOut(), Scenes.udpIn());
        int[] out = Scenes.tcpOut(syn);
        lives("TCP", 12, out);
        lives("SYN alone came back", 12, out, Scenes.tcpIn(syn));
        lives("ACK alone came back", 12, out, Scenes.tcpIn(Packets.ACK));
        lives("SYN and ACK went out", 12, out, Scenes.tcpOut(back));
        lives("SYN came back", 100, out, Scenes.tcpIn(back));
        lives("FIN went out", 100, out, Scenes.tcpIn(back), Scenes.tcpOut(fin));
        lives("FIN went out twice", 100, out, Scenes.tcpIn(back), Scenes.tcpOut(fin), Scenes.tcpOut(fin));
        lives("FIN came in", 100, out, Scenes.tcpIn(back), Scenes.tcpIn(fin));
        lives("FIN came in twice", 100, out, Scenes.tcpIn(back), Scenes.tcpIn(fin), Scenes.tcpIn(fin));
        lives("FIN both ways", 12, out, Scenes.tcpIn(back), Scenes.tcpIn(fin), Scenes.tcpOut(fin));
        lives("FIN both ways, SYN not back", 12, out, Scenes.tcpIn(fin), Scenes.tcpOut(fin));
        lives("FIN both ways, then SYN back", 12, out, Scenes.tcpIn(fin), Scenes.tcpOut(fin),
                Scenes.tcpIn(back));
        lives("FIN with the first SYN, then SYN back", 100, Scenes.tcpOut(syn | Packets.FIN),
                Scenes.tcpIn(back));
        lives("FIN with both SYN", 12, Scenes.tcpOut(syn | Packets.FIN), Scenes.tcpIn(back | Packets.FIN));
    }

    private void lives(String what, int life, int[]... packets) {
        PortTranslator x = after(packets);
        check.due(what + ": tick(" + life + ")", x.tick(life), 0);
        check.due(what + ": flow(0, 6)", x.flow(0, 6), life);
        check.due(what + ": flows()", x.flows(), 1);
        check.due(what + ": one tick more", x.tick(1), 1);
        check.due(what + ": flows() then", x.flows(), 0);
        check.dueThrow(what + ": flow(0, 6) then", () -> x.flow(0, 6), IndexOutOfBoundsException.class);
        PortTranslator y = after(packets);
        y.tick(life - 1);
        check.due(what + ": the last tick of its life", y.tick(1), 0);
        check.due(what + ": the first behind it", y.tick(1), 1);
        PortTranslator z = after(packets);
        // No single call has more than 100 ticks.
        check.due(what + ": all at once", life < 100 ? z.tick(life + 1) : z.tick(1) + z.tick(100), 1);
    }

    private PortTranslator after(int[]... packets) {
        PortTranslator x = new PortTranslator();
        for (int[] packet : packets) {
            boolean out = (packet[6] << 16 | packet[7]) == HOST;
            dueRouted("route(" + out + ")", x, out, packet);
        }
        return x;
    }

    /** The life of a flow of kind 6 is the one that it has when the ticks come. */
    private void tcpLifeChanges() {
        int back = Packets.SYN | Packets.ACK;
        PortTranslator x = after(Scenes.tcpOut(Packets.SYN));
        x.tick(12);
        dueRouted("SYN came back in time", x, false, Scenes.tcpIn(back));
        check.due("tick(100)", x.tick(100), 0);
        dueRouted("FIN went out in time", x, true, Scenes.tcpOut(Packets.FIN));
        check.due("tick(100) again", x.tick(100), 0);
        dueRouted("FIN came in in time", x, false, Scenes.tcpIn(Packets.FIN));
        check.due("tick(12)", x.tick(12), 0);
        check.due("tick(1)", x.tick(1), 1);
        PortTranslator y = after(Scenes.tcpOut(Packets.SYN));
        y.tick(13);
        check.due("SYN came back too late", Packets.route(y, false, Scenes.tcpIn(back)), 5);
    }

    /** A routed packet that is no error makes the age of its flow 0. */
    private void ageIsThatOfTheLastPacket() {
        for (int kind : KINDS) {
            int life = kind == 17 ? 30 : kind == 6 ? 12 : 6;
            int[] out = Scenes.first(kind, HOST, 5, SERVER, 9);
            int[] in = Scenes.answer(kind, SERVER, 9, OWN, 40000);
            PortTranslator x = after(out);
            x.tick(life);
            dueRouted("out at the end of life", x, true, out);
            check.due("flow(0, 6)", x.flow(0, 6), 0);
            x.tick(life);
            dueRouted("in at the end of life", x, false, in);
            check.due("flow(0, 6)", x.flow(0, 6), 0);
            x.tick(life);
            dueRouted("an error out at the end of life", x, true, Packets.error(3, HOST, SERVER,
                    Scenes.answer(kind, SERVER, 9, HOST, 5)));
            dueRouted("an error in at the end of life", x, false, Packets.error(3, SERVER, OWN,
                    Scenes.first(kind, OWN, 40000, SERVER, 9)));
            check.due("flow(0, 6) after errors", x.flow(0, 6), life);
            check.due("one tick more", x.tick(1), 1);
            check.due("in after that", Packets.route(x, false, in), 5);
            dueRouted("out after that", x, true, out);
            check.due("flow(0, 6) of a new one", x.flow(0, 6), 0);
            check.due("flow(0, 7) of a new one", x.flow(0, 7), 0);
        }
    }

    /** The flows whose age is more than their LIFE end: first, middle and last, none, and all. */
    private void severalEndInOneTick() {
        PortTranslator x = new PortTranslator();
        int[] kinds = {1, 17, 1, 1, 6, 17, 1, 6, 17, 1, 6, 1};
        for (int i = 0; i < kinds.length; i++) {
            Packets.route(x, true, Scenes.first(kinds[i], HOST, 5, SERVER + i, 9));
        }
        check.due("tick(6)", x.tick(6), 0);
        check.due("flows()", x.flows(), 12);
        check.due("tick(1)", x.tick(1), 6);
        int[] stay = {1, 4, 5, 7, 8, 10};
        check.due("flows()", x.flows(), stay.length);
        for (int k = 0; k < stay.length; k++) {
            check.due("flow(" + k + ", 3)", x.flow(k, 3), SERVER + stay[k]);
            check.due("flow(" + k + ", 6)", x.flow(k, 6), 7);
        }
        check.due("tick(5)", x.tick(5), 0);
        check.due("tick(1)", x.tick(1), 3);
        check.due("tick(17)", x.tick(17), 0);
        check.due("tick(1)", x.tick(1), 3);
        check.due("flows() at last", x.flows(), 0);
        check.due("tick(100) of none", x.tick(100), 0);
    }

    /** With RST the flow ends: the others stay, in the order in which they began. */
    private void firstMiddleAndLastOf12End() {
        for (int ended : new int[] {0, 1, 5, 10, 11}) {
            PortTranslator x = new PortTranslator();
            for (int i = 0; i < 12; i++) {
                begin(x, 6, 5, SERVER + i);
            }
            dueRouted("RST", x, true, Packets.tcp(HOST, 5, SERVER + ended, 9, Packets.RST));
            check.due("flows()", x.flows(), 11);
            for (int k = 0; k < 11; k++) {
                check.due("flow(" + k + ", 3)", x.flow(k, 3), SERVER + (k < ended ? k : k + 1));
            }
            begin(x, 6, 5, SERVER + ended);
            check.due("flow(11, 3), begun anew", x.flow(11, 3), SERVER + ended);
        }
    }

    /** However much happened to the flow that was there before it. */
    private void newFlowHasNothingOfThePast() {
        for (int kind : KINDS) {
            for (boolean byReset : new boolean[] {true, false}) {
                PortTranslator x = after(Scenes.tcpOut(Packets.SYN), Scenes.tcpIn(Packets.SYN | Packets.ACK),
                        Scenes.tcpOut(Packets.FIN), Scenes.tcpIn(Packets.FIN));
                check.due("flow(0, 7)", x.flow(0, 7), 7);
                x.tick(9);
                if (byReset) {
                    dueRouted("RST", x, false, Scenes.tcpIn(Packets.RST));
                } else {
                    check.due("tick(4)", x.tick(4), 1);
                }
                begin(x, kind, 5, SERVER);
                int[] due = {kind, HOST, 5, SERVER, kind == 1 ? 0 : 9, 40000, 0, 0};
                for (int which = 0; which < 8; which++) {
                    check.due("flow(0, " + which + ") of a new one", x.flow(0, which), due[which]);
                }
            }
        }
    }
}
