/** Promise 7: tick, and the life of flows. */
final class TickTest {
    private static final int HOST = Packets.HOST;
    private static final int SERVER = Packets.SERVER;
    private static final int OWN = Packets.OWN;

    private final Check check = new Check();

    private TickTest() {
    }

    public static void main(String[] args) {
        TickTest test = new TickTest();
        test.wrongNumbers();
        test.lives();
        test.severalEndAtOnce();
        test.packetsMakeYoung();
        test.flagsCount();
        test.resetEnds();
        test.check.end();
    }

    private PortTranslator after(int[]... packets) {
        PortTranslator x = new PortTranslator();
        for (int[] packet : packets) {
            boolean out = (packet[6] << 16 | packet[7]) == HOST;
            check.due("route(" + out + ")", Packets.route(x, out, packet), 0);
        }
        return x;
    }

    private int[] out(int flags) {
        return Packets.tcp(HOST, 6000, SERVER, 80, flags);
    }

    private int[] in(int flags) {
        return Packets.tcp(SERVER, 80, OWN, 40000, flags);
    }

    private void wrongNumbers() {
        PortTranslator x = after(Packets.udp(HOST, 5000, SERVER, 53));
        for (int n : new int[] {0, -1, 101, 1000, Integer.MIN_VALUE, Integer.MAX_VALUE}) {
            check.dueThrow("tick(" + n + ")", () -> x.tick(n), IllegalArgumentException.class);
        }
        check.due("the age after wrong ticks", x.flow(0, 6), 0);
        check.due("tick(1)", x.tick(1), 0);
        check.due("the age", x.flow(0, 6), 1);
        check.due("tick(100)", x.tick(100), 1);
        check.due("flows()", x.flows(), 0);
    }

    private void lives() {
        livesFor("ECHO", 6, Packets.echo(Packets.REQUEST, HOST, SERVER, 77));
        livesFor("UDP", 30, Packets.udp(HOST, 5000, SERVER, 53));
        livesFor("UDP answered", 30, Packets.udp(HOST, 5000, SERVER, 53),
                Packets.udp(SERVER, 53, OWN, 40000));
        int sa = Packets.SYN | Packets.ACK;
        int fa = Packets.FIN | Packets.ACK;
        livesFor("SYN", 12, out(Packets.SYN));
        livesFor("SYN, not back", 12, out(Packets.SYN), in(Packets.ACK));
        livesFor("SYN back", 100, out(Packets.SYN), in(sa));
        livesFor("FIN out", 100, out(Packets.SYN), in(sa), out(fa));
        livesFor("FIN in", 100, out(Packets.SYN), in(sa), in(fa));
        livesFor("FIN out and in", 12, out(Packets.SYN), in(sa), out(fa), in(fa));
        livesFor("FIN in and out", 12, out(Packets.SYN), in(sa), in(fa), out(fa));
        livesFor("FIN both, SYN never back", 12, out(Packets.SYN), in(fa), out(fa));
        livesFor("SYN and FIN out", 12, out(Packets.SYN | Packets.FIN));
    }

    private void livesFor(String what, int life, int[]... packets) {
        PortTranslator whole = after(packets);
        check.due(what + ": tick(life)", whole.tick(life), 0);
        check.due(what + ": the age", whole.flow(0, 6), life);
        check.due(what + ": one tick more", whole.tick(1), 1);
        check.due(what + ": flows()", whole.flows(), 0);
        PortTranslator steps = after(packets);
        for (int i = 1; i <= life; i++) {
            check.due(what + ": tick " + i, steps.tick(1), 0);
        }
        check.due(what + ": the last tick", steps.tick(1), 1);
        check.due(what + ": a tick without flows", steps.tick(1), 0);
    }

    private void severalEndAtOnce() {
        PortTranslator x = after(Packets.echo(Packets.REQUEST, HOST, SERVER, 1),
                Packets.udp(HOST, 2, SERVER, 53), Packets.echo(Packets.REQUEST, HOST, SERVER, 3),
                Packets.tcp(HOST, 4, SERVER, 80, Packets.SYN), Packets.udp(HOST, 5, SERVER, 53));
        check.due("tick(7)", x.tick(7), 2);
        check.due("flows()", x.flows(), 3);
        check.due("flow(0, 2)", x.flow(0, 2), 2);
        check.due("flow(1, 2)", x.flow(1, 2), 4);
        check.due("flow(2, 2)", x.flow(2, 2), 5);
        check.due("flow(2, 6)", x.flow(2, 6), 7);
        check.due("tick(24)", x.tick(24), 3);
        check.due("flows() at last", x.flows(), 0);
        Packets.route(x, true, Packets.udp(HOST, 6, SERVER, 53));
        check.due("the age of a new flow", x.flow(0, 6), 0);
        check.due("the own port of a new flow", x.flow(0, 5), 40000);
    }

    private void packetsMakeYoung() {
        PortTranslator x = after(Packets.udp(HOST, 5000, SERVER, 53));
        x.tick(30);
        Packets.route(x, true, Packets.udp(HOST, 5000, SERVER, 53));
        check.due("the age after a packet out", x.flow(0, 6), 0);
        x.tick(30);
        Packets.route(x, false, Packets.udp(SERVER, 53, OWN, 40000));
        check.due("the age after a packet in", x.flow(0, 6), 0);
        x.tick(30);
        Packets.route(x, false, Packets.udp(SERVER, 54, OWN, 40000));
        Packets.route(x, true, Packets.broken(Packets.udp(HOST, 5000, SERVER, 53), 13, 1));
        Packets.route(x, true, Packets.with(Packets.udp(HOST, 5000, SERVER, 53), 4, 256 + 17));
        check.due("the age after packets refused", x.flow(0, 6), 30);
        Packets.route(x, false, Packets.error(3, SERVER, OWN, Packets.udp(OWN, 40000, SERVER, 53)));
        check.due("the age after an error", x.flow(0, 6), 30);
        check.due("tick(1)", x.tick(1), 1);
    }

    private void flagsCount() {
        PortTranslator x = after(out(Packets.SYN), out(Packets.SYN | Packets.ACK));
        check.due("SYN and ACK out", x.flow(0, 7), 0);
        Packets.route(x, false, in(Packets.SYN));
        check.due("SYN in", x.flow(0, 7), 0);
        Packets.route(x, false, in(Packets.ACK));
        check.due("ACK in", x.flow(0, 7), 0);
        Packets.route(x, false, in(Packets.FIN));
        check.due("FIN in", x.flow(0, 7), 4);
        Packets.route(x, false, in(Packets.SYN | Packets.ACK));
        check.due("SYN and ACK in", x.flow(0, 7), 5);
        Packets.route(x, true, out(Packets.FIN));
        check.due("FIN out", x.flow(0, 7), 7);
        Packets.route(x, true, out(Packets.ACK));
        Packets.route(x, false, in(Packets.ACK));
        check.due("what was stays", x.flow(0, 7), 7);
        PortTranslator all = after(out(Packets.SYN), in(Packets.SYN | Packets.ACK | Packets.FIN));
        check.due("SYN, ACK and FIN in at once", all.flow(0, 7), 5);
        PortTranslator fin = after(out(Packets.SYN | Packets.FIN));
        check.due("SYN and FIN out at once", fin.flow(0, 7), 2);
        // The words that are flags in TCP are data elsewhere.
        PortTranslator udp = after(Packets.udp(HOST, 1, SERVER, 2, 0, 0, 5 << 12 | 31),
                Packets.udp(SERVER, 2, OWN, 40000, 0, 0, 5 << 12 | 31));
        check.due("UDP with such words", udp.flow(0, 7), 0);
        PortTranslator echo = after(Packets.echo(Packets.REQUEST, HOST, SERVER, 2, 0, 0, 5 << 12 | 31),
                Packets.echo(Packets.REPLY, SERVER, OWN, 40000, 0, 0, 5 << 12 | 31));
        check.due("ECHO with such words", echo.flow(0, 7), 0);
    }

    private void resetEnds() {
        PortTranslator x = after(out(Packets.SYN), out(Packets.RST));
        check.due("flows() after RST out", x.flows(), 0);
        check.due("length() after RST out", x.length(), 20);
        check.due("at(10) after RST out", x.at(10), 40000);
        PortTranslator y = after(Packets.udp(HOST, 6000, SERVER, 80), out(Packets.SYN),
                Packets.tcp(HOST, 6001, SERVER, 80, Packets.SYN), in(Packets.RST | Packets.ACK));
        check.due("flows() after RST in", y.flows(), 2);
        check.due("the flow of another kind stays", y.flow(0, 0), 17);
        check.due("the flow of another port stays", y.flow(1, 2), 6001);
        check.due("a packet of the flow that ended", Packets.route(y, false, in(Packets.ACK)), 5);
        Packets.route(y, true, out(Packets.SYN));
        check.due("it begins anew", y.flow(2, 2), 6000);
        check.due("with nothing of the past", y.flow(2, 7), 0);
        PortTranslator z = after(out(Packets.SYN), in(Packets.SYN | Packets.ACK), out(Packets.FIN),
                in(Packets.FIN), in(Packets.RST), out(Packets.SYN));
        check.due("a row used again", z.flow(0, 7), 0);
        check.due("its age", z.flow(0, 6), 0);
    }
}
