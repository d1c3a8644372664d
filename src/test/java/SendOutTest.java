import java.util.Arrays;

/** Promise 4: routing packets that are no errors from inside. */
final class SendOutTest {
    private static final int HOST = Packets.HOST;
    private static final int SERVER = Packets.SERVER;
    private static final int OWN = Packets.OWN;

    private final Check check = new Check();

    private SendOutTest() {
    }

    public static void main(String[] args) {
        SendOutTest test = new SendOutTest();
        test.packetsAreTranslated();
        test.checksumOfUdpIsNever0();
        test.checksumsWithTwoCarries();
        test.addresses();
        test.newFlows();
        test.portsAndFlowsRunOut();
        test.leastFreePort();
        test.draftIsEmptyThen();
        test.check.end();
    }

    private void packetsAreTranslated() {
        PortTranslator x = new PortTranslator();
        Packets.route(x, true, Packets.udp(HOST, 5000, SERVER, 53, 1, 2));
        Packets.dueLatest(check, "UDP", x, Packets.udp(OWN, 40000, SERVER, 53, 1, 2));
        Packets.route(x, true, Packets.udpWithoutChecksum(HOST, 5001, SERVER, 53, 1));
        Packets.dueLatest(check, "UDP without checksum", x,
                Packets.udpWithoutChecksum(OWN, 40001, SERVER, 53, 1));
        Packets.route(x, true, Packets.tcp(HOST, 5000, SERVER, 80, Packets.SYN, 7));
        Packets.dueLatest(check, "TCP", x, Packets.tcp(OWN, 40000, SERVER, 80, Packets.SYN, 7));
        Packets.route(x, true, Packets.echo(Packets.REQUEST, HOST, SERVER, 77, 5));
        Packets.dueLatest(check, "ECHO", x, Packets.echo(Packets.REQUEST, OWN, SERVER, 40000, 5));
        check.due("ECHO with w10 0, with a flow",
                Packets.route(x, true, Packets.echo(Packets.REPLY, HOST, SERVER, 77)), 0);
        Packets.dueLatest(check, "ECHO with w10 0", x, Packets.echo(Packets.REPLY, OWN, SERVER, 40000));
        check.due("flows()", x.flows(), 4);
    }

    private void checksumOfUdpIsNever0() {
        PortTranslator x = new PortTranslator();
        int[] goesOut = Packets.udp(OWN, 40000, SERVER, 53, 0);
        // With this last word all others than the checksum have the sum 65535.
        goesOut[14] = goesOut[13];
        int[] packet = Packets.udp(HOST, 5000, SERVER, 53, goesOut[14]);
        check.due("route(true)", Packets.route(x, true, packet), 0);
        check.due("at(13) where 0 is the checksum", x.at(13), 65535);
        check.due("the body agrees", Packets.sum(Packets.latest(x), 6, 15, -1, 17 + 10), 65535);
    }

    /** Words whose plain sum ends in 16 bits 1 have a sum that is carried twice. */
    private void checksumsWithTwoCarries() {
        int[] plain = Packets.udp(OWN, 40000, SERVER, 53, 0, 65535, 65535);
        int total = 17 + plain[12];
        for (int i = 6; i < plain.length; i++) {
            total += i == 13 ? 0 : plain[i];
        }
        int last = 65535 - (total & 65535);
        PortTranslator x = new PortTranslator();
        Packets.route(x, true, Packets.udp(HOST, 5000, SERVER, 53, last, 65535, 65535));
        Packets.dueLatest(check, "carried twice", x,
                Packets.udp(OWN, 40000, SERVER, 53, last, 65535, 65535));
        check.due("its checksum is 65535 - what was carried", x.at(13), 65535 - ((total + last) >> 16));
    }

    private void addresses() {
        int first = Packets.address(10, 0, 0, 0);
        int last = Packets.address(10, 0, 0, 255);
        from("the first inside", first, SERVER, 0);
        from("the last inside", last, SERVER, 0);
        from("before the first inside", first - 1, SERVER, 5);
        from("behind the last inside", last + 1, SERVER, 5);
        from("the own address", OWN, SERVER, 5);
        from("outside", Packets.OTHER_SERVER, SERVER, 5);
        from("inside to inside", HOST, last, 5);
        from("inside to the first inside", HOST, first, 5);
        from("inside to the own address", HOST, OWN, 5);
        from("inside to before the first inside", HOST, first - 1, 0);
        from("inside to behind the last inside", HOST, last + 1, 0);
        from("inside to 0", HOST, 0, 0);
        from("inside to -1", HOST, -1, 0);
        from("inside to the least int", HOST, Integer.MIN_VALUE, 0);
        from("inside to before the own address", HOST, OWN - 1, 0);
        from("inside to behind the own address", HOST, OWN + 1, 0);
    }

    private void from(String what, int from, int to, int want) {
        PortTranslator x = new PortTranslator();
        check.due("UDP " + what, Packets.route(x, true, Packets.udp(from, 1, to, 2)), want);
        check.due("TCP " + what, Packets.route(x, true, Packets.tcp(from, 1, to, 2, Packets.SYN)), want);
        check.due("ECHO " + what,
                Packets.route(x, true, Packets.echo(Packets.REQUEST, from, to, 3)), want);
        check.due("flows() of " + what, x.flows(), want == 0 ? 3 : 0);
    }

    private void newFlows() {
        for (int flags = 0; flags < 64; flags++) {
            PortTranslator x = new PortTranslator();
            boolean begins = (flags & Packets.SYN) != 0 && (flags & (Packets.ACK | Packets.RST)) == 0;
            check.due("TCP with flags " + flags,
                    Packets.route(x, true, Packets.tcp(HOST, 1, SERVER, 2, flags)), begins ? 0 : 5);
            check.due("flows()", x.flows(), begins ? 1 : 0);
        }
        PortTranslator x = new PortTranslator();
        check.due("ECHO with w10 0, without a flow",
                Packets.route(x, true, Packets.echo(Packets.REPLY, HOST, SERVER, 77)), 5);
        Packets.route(x, true, Packets.tcp(HOST, 1, SERVER, 2, Packets.SYN));
        int[][] others = {
            Packets.tcp(Packets.OTHER_HOST, 1, SERVER, 2, Packets.ACK),
            Packets.tcp(HOST, 3, SERVER, 2, Packets.ACK),
            Packets.tcp(HOST, 1, Packets.OTHER_SERVER, 2, Packets.ACK),
            Packets.tcp(HOST, 1, SERVER, 3, Packets.ACK)};
        for (int[] other : others) {
            check.due("TCP of no flow", Packets.route(x, true, other), 5);
        }
        check.due("TCP of a flow", Packets.route(x, true,
                Packets.tcp(HOST, 1, SERVER, 2, Packets.ACK)), 0);
    }

    private void portsAndFlowsRunOut() {
        PortTranslator x = new PortTranslator();
        for (int i = 0; i < 6; i++) {
            check.due("binding " + i, Packets.route(x, true, Packets.udp(HOST, 100 + i, SERVER, 53)), 0);
            check.due("own port " + i, x.flow(i, 5), 40000 + i);
        }
        check.due("bindings(17)", x.bindings(17), 6);
        check.due("one binding too many",
                Packets.route(x, true, Packets.udp(HOST, 200, SERVER, 53)), 6);
        check.due("the same port of another host",
                Packets.route(x, true, Packets.udp(Packets.OTHER_HOST, 100, SERVER, 53)), 6);
        check.due("a binding that there is",
                Packets.route(x, true, Packets.udp(HOST, 103, SERVER, 54)), 0);
        check.due("its own port", x.flow(6, 5), 40003);
        check.due("another kind", Packets.route(x, true, Packets.tcp(HOST, 1, SERVER, 2, Packets.SYN)), 0);
        check.due("its own port", x.flow(7, 5), 40000);
        for (int i = 8; i < 12; i++) {
            check.due("flow " + i, Packets.route(x, true,
                    Packets.echo(Packets.REQUEST, HOST, SERVER + i, 1)), 0);
        }
        check.due("one flow too many, with a binding",
                Packets.route(x, true, Packets.udp(HOST, 103, SERVER, 55)), 6);
        check.due("one flow too many, without",
                Packets.route(x, true, Packets.tcp(HOST, 2, SERVER, 2, Packets.SYN)), 6);
        check.due("one flow too many, but not let begin",
                Packets.route(x, true, Packets.tcp(HOST, 2, SERVER, 2, Packets.ACK)), 5);
        check.due("a flow that there is",
                Packets.route(x, true, Packets.udp(HOST, 103, SERVER, 54)), 0);
        check.due("flows()", x.flows(), 12);
        Packets.route(x, true, Packets.tcp(HOST, 1, SERVER, 2, Packets.RST));
        check.due("flows() when one of all ended", x.flows(), 11);
        check.due("one flow more then", Packets.route(x, true, Packets.udp(HOST, 103, SERVER, 55)), 0);
        check.due("tick(7) with all flows", x.tick(7), 4);
        check.due("flows() after that", x.flows(), 8);
    }

    private void leastFreePort() {
        PortTranslator x = new PortTranslator();
        for (int i = 0; i < 4; i++) {
            Packets.route(x, true, Packets.tcp(HOST, 10 + i, SERVER, 80, Packets.SYN));
        }
        Packets.route(x, true, Packets.tcp(HOST, 12, SERVER, 80, Packets.RST));
        Packets.route(x, true, Packets.tcp(HOST, 11, SERVER, 80, Packets.RST));
        Packets.route(x, true, Packets.tcp(HOST, 20, SERVER, 80, Packets.SYN));
        check.due("the least free port", x.flow(2, 5), 40001);
        Packets.route(x, true, Packets.tcp(HOST, 21, SERVER, 80, Packets.SYN));
        check.due("the next free port", x.flow(3, 5), 40002);
        // A binding lives as long as one of its flows does.
        Packets.route(x, true, Packets.tcp(HOST, 10, SERVER, 81, Packets.SYN));
        Packets.route(x, true, Packets.tcp(HOST, 10, SERVER, 80, Packets.RST));
        Packets.route(x, true, Packets.tcp(HOST, 22, SERVER, 80, Packets.SYN));
        check.due("a port still bound is not free", x.flow(x.flows() - 1, 5), 40004);
        Packets.route(x, true, Packets.tcp(HOST, 10, SERVER, 81, Packets.RST));
        Packets.route(x, true, Packets.tcp(HOST, 10, SERVER, 82, Packets.SYN));
        check.due("a port no longer bound is free", x.flow(x.flows() - 1, 5), 40000);

        PortTranslator y = new PortTranslator();
        Packets.route(y, true, Packets.tcp(HOST, 10, SERVER, 80, Packets.SYN));
        Packets.route(y, true, Packets.tcp(HOST, 11, SERVER, 80, Packets.SYN));
        Packets.route(y, true, Packets.tcp(HOST, 10, SERVER, 80, Packets.RST));
        Packets.route(y, true, Packets.tcp(HOST, 11, SERVER, 80, Packets.RST));
        Packets.route(y, true, Packets.tcp(HOST, 11, SERVER, 80, Packets.SYN));
        check.due("a binding ends with its last flow", y.flow(0, 5), 40000);
    }

    private void draftIsEmptyThen() {
        PortTranslator x = new PortTranslator();
        Packets.route(x, true, Packets.udp(HOST, 5000, SERVER, 53));
        int[] before = Packets.latest(x);
        check.due("route(true) once more", x.route(true), 1);
        Packets.route(x, true, Packets.tcp(HOST, 1, SERVER, 2, Packets.ACK));
        check.due("route(true) after a refusal", x.route(true), 1);
        check.due("what was routed stays", Arrays.equals(before, Packets.latest(x)), true);
        check.due("flows() after a refusal", x.flows(), 1);
    }
}
