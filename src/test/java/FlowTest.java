/** Promises 10, 11 and 12: flows, flow and bindings. */
final class FlowTest {
    private static final int HOST = Packets.HOST;
    private static final int SERVER = Packets.SERVER;
    private static final int OWN = Packets.OWN;

    private final Check check = new Check();

    private FlowTest() {
    }

    public static void main(String[] args) {
        FlowTest test = new FlowTest();
        test.details();
        test.wrongOnes();
        test.orderOfBeginning();
        test.bindings();
        test.check.end();
    }

    private void dueFlow(PortTranslator x, int k, int... details) {
        for (int which = 0; which < 8; which++) {
            check.due("flow(" + k + ", " + which + ")", x.flow(k, which), details[which]);
        }
    }

    private void details() {
        PortTranslator x = new PortTranslator();
        Packets.route(x, true, Packets.udp(HOST, 65535, -1, 0));
        x.tick(2);
        Packets.route(x, true, Packets.tcp(HOST, 6000, SERVER, 80, Packets.SYN));
        Packets.route(x, false, Packets.tcp(SERVER, 80, OWN, 40000, Packets.SYN | Packets.ACK));
        x.tick(3);
        Packets.route(x, true, Packets.echo(Packets.REQUEST, HOST, SERVER, 77));
        check.due("flows()", x.flows(), 3);
        dueFlow(x, 0, 17, HOST, 65535, -1, 0, 40000, 5, 0);
        dueFlow(x, 1, 6, HOST, 6000, SERVER, 80, 40000, 3, 1);
        dueFlow(x, 2, 1, HOST, 77, SERVER, 0, 40000, 0, 0);
    }

    private void wrongOnes() {
        PortTranslator x = new PortTranslator();
        Packets.route(x, true, Packets.udp(HOST, 1, SERVER, 2));
        for (int k : new int[] {-1, 1, 11, 12, Integer.MIN_VALUE, Integer.MAX_VALUE}) {
            check.dueThrow("flow(" + k + ", 0)", () -> x.flow(k, 0), IndexOutOfBoundsException.class);
            check.dueThrow("flow(" + k + ", 8)", () -> x.flow(k, 8), IndexOutOfBoundsException.class);
        }
        for (int which : new int[] {-1, 8, 9, Integer.MIN_VALUE, Integer.MAX_VALUE}) {
            check.dueThrow("flow(0, " + which + ")", () -> x.flow(0, which), IllegalArgumentException.class);
        }
        check.due("flows()", x.flows(), 1);
        x.tick(31);
        check.dueThrow("flow(0, 0) that ended", () -> x.flow(0, 0), IndexOutOfBoundsException.class);
    }

    private void orderOfBeginning() {
        PortTranslator x = new PortTranslator();
        for (int i = 0; i < 6; i++) {
            Packets.route(x, true, Packets.tcp(HOST, i, SERVER, 80, Packets.SYN));
        }
        Packets.route(x, true, Packets.tcp(HOST, 2, SERVER, 80, Packets.RST));
        Packets.route(x, true, Packets.tcp(HOST, 0, SERVER, 80, Packets.RST));
        Packets.route(x, true, Packets.tcp(HOST, 5, SERVER, 80, Packets.ACK));
        Packets.route(x, true, Packets.tcp(HOST, 2, SERVER, 80, Packets.SYN));
        int[] ports = {1, 3, 4, 5, 2};
        check.due("flows()", x.flows(), ports.length);
        for (int k = 0; k < ports.length; k++) {
            check.due("flow(" + k + ", 2)", x.flow(k, 2), ports[k]);
        }
        check.due("the own port of the new one", x.flow(4, 5), 40000);
    }

    private void bindings() {
        PortTranslator x = new PortTranslator();
        Packets.route(x, true, Packets.udp(HOST, 1, SERVER, 2));
        Packets.route(x, true, Packets.udp(HOST, 1, SERVER, 3));
        Packets.route(x, true, Packets.udp(HOST, 1, Packets.OTHER_SERVER, 2));
        dueBindings(x, 0, 0, 1);
        check.due("one own port", x.flow(2, 5), 40000);
        Packets.route(x, true, Packets.udp(HOST, 2, SERVER, 2));
        Packets.route(x, true, Packets.udp(Packets.OTHER_HOST, 1, SERVER, 2));
        dueBindings(x, 0, 0, 3);
        Packets.route(x, true, Packets.tcp(HOST, 1, SERVER, 2, Packets.SYN));
        Packets.route(x, true, Packets.tcp(HOST, 1, SERVER, 3, Packets.SYN));
        Packets.route(x, true, Packets.echo(Packets.REQUEST, HOST, SERVER, 1));
        Packets.route(x, true, Packets.echo(Packets.REQUEST, HOST, SERVER, 2));
        dueBindings(x, 2, 1, 3);
        Packets.route(x, true, Packets.tcp(HOST, 1, SERVER, 3, Packets.RST));
        dueBindings(x, 2, 1, 3);
        Packets.route(x, true, Packets.tcp(HOST, 1, SERVER, 2, Packets.RST));
        dueBindings(x, 2, 0, 3);
        x.tick(7);
        dueBindings(x, 0, 0, 3);
        for (int kind : new int[] {0, -1, 2, 16, 18, 256 + 17, Integer.MIN_VALUE, Integer.MAX_VALUE}) {
            check.due("bindings(" + kind + ")", x.bindings(kind), 0);
        }
        x.tick(24);
        dueBindings(x, 0, 0, 0);
    }

    private void dueBindings(PortTranslator x, int echo, int tcp, int udp) {
        check.due("bindings(1)", x.bindings(1), echo);
        check.due("bindings(6)", x.bindings(6), tcp);
        check.due("bindings(17)", x.bindings(17), udp);
    }
}
