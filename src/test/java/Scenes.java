/** States of an object that the tests of boundaries begin with; the draft is empty in all of them. */
final class Scenes {
    static final int HOST = Packets.HOST;
    static final int SERVER = Packets.SERVER;
    static final int OWN = Packets.OWN;

    /** How many flows, and how many own ports of a kind, there are at most. */
    static final int MOST_FLOWS = 12;
    static final int OWN_PORTS = 6;

    private Scenes() {
    }

    /** Nothing happened yet. */
    static void fresh(PortTranslator x) {
        check(x.flows() == 0);
    }

    /**
     * A flow of each kind from HOST to SERVER, all with the own port 40000, and no rules. No age is
     * 0, so that a call which makes one so can be seen.
     */
    static void oneOfEach(PortTranslator x) {
        must(x, true, udpOut());
        x.tick(1);
        must(x, true, tcpOut(Packets.SYN));
        x.tick(1);
        must(x, true, echoOut(Packets.REQUEST));
        x.tick(1);
    }

    /** A flow of each kind, ages and flags that are not 0, and the rules 1 and 2. */
    static void busy(PortTranslator x) {
        x.rule(1, 17, Packets.OTHER_SERVER, 24, false);
        x.rule(2, 0, SERVER, 8, true);
        must(x, true, udpOut());
        x.tick(2);
        must(x, true, tcpOut(Packets.SYN));
        must(x, true, echoOut(Packets.REQUEST));
        must(x, false, tcpIn(Packets.SYN | Packets.ACK));
        x.tick(1);
        must(x, true, tcpOut(Packets.FIN | Packets.ACK));
        x.tick(2);
    }

    /** No flow more has room: 12, two of each binding of kind 17; and all four rules are there. */
    static void full(PortTranslator x) {
        for (int i = 0; i < OWN_PORTS; i++) {
            must(x, true, Packets.udp(HOST, 5000 + i, SERVER, 53));
            must(x, true, Packets.udp(HOST, 5000 + i, SERVER, 54));
        }
        x.tick(3);
        x.rule(0, 6, Packets.OTHER_SERVER, 32, false);
        x.rule(1, 17, Packets.OTHER_SERVER, 24, true);
        x.rule(2, 1, SERVER, 16, true);
        x.rule(3, 0, Packets.OTHER_SERVER, 8, false);
    }

    static int[] udpOut(int... data) {
        return Packets.udp(HOST, 5000, SERVER, 53, data);
    }

    static int[] udpIn(int... data) {
        return Packets.udp(SERVER, 53, OWN, 40000, data);
    }

    static int[] tcpOut(int flags, int... data) {
        return Packets.tcp(HOST, 6000, SERVER, 80, flags, data);
    }

    static int[] tcpIn(int flags, int... data) {
        return Packets.tcp(SERVER, 80, OWN, 40000, flags, data);
    }

    static int[] echoOut(int type, int... data) {
        return Packets.echo(type, HOST, SERVER, 77, data);
    }

    static int[] echoIn(int type, int... data) {
        return Packets.echo(type, SERVER, OWN, 40000, data);
    }

    /** An error that goes out about what came in by the flow of that kind. */
    static int[] errorOut(int kind) {
        return Packets.error(3, HOST, SERVER, kind == 17 ? Packets.udp(SERVER, 53, HOST, 5000)
                : kind == 6 ? Packets.tcp(SERVER, 80, HOST, 6000, Packets.ACK)
                : Packets.echo(Packets.REPLY, SERVER, HOST, 77));
    }

    /** An error that comes in about what went out by the flow of that kind. */
    static int[] errorIn(int kind) {
        return Packets.error(11, SERVER, OWN, kind == 17 ? Packets.udp(OWN, 40000, SERVER, 53)
                : kind == 6 ? Packets.tcp(OWN, 40000, SERVER, 80, Packets.ACK)
                : Packets.echo(Packets.REQUEST, OWN, SERVER, 40000));
    }

    /** A packet that begins a flow of that kind. */
    static int[] first(int kind, int from, int fromPort, int to, int toPort) {
        return kind == 17 ? Packets.udp(from, fromPort, to, toPort)
                : kind == 6 ? Packets.tcp(from, fromPort, to, toPort, Packets.SYN)
                : Packets.echo(Packets.REQUEST, from, to, fromPort);
    }

    /** A packet that answers such a one. */
    static int[] answer(int kind, int from, int fromPort, int to, int toPort) {
        return kind == 17 ? Packets.udp(from, fromPort, to, toPort)
                : kind == 6 ? Packets.tcp(from, fromPort, to, toPort, Packets.ACK)
                : Packets.echo(Packets.REPLY, from, to, toPort);
    }

    /** A scene that can't be made is a fault of its own, and nothing behind it tells anything. */
    private static void must(PortTranslator x, boolean out, int[] packet) {
        check(Packets.route(x, out, packet) == 0);
    }

    private static void check(boolean asDue) {
        if (!asDue) {
            throw new AssertionError("a scene could not be made");
        }
    }
}
