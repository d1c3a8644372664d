/** Promise 4: routing errors, and adjusting the checksums of their other packets. */
final class ErrorTest {
    private static final int HOST = Packets.HOST;
    private static final int SERVER = Packets.SERVER;
    private static final int OWN = Packets.OWN;
    private static final int ROUTER = Packets.OTHER_SERVER;

    private final Check check = new Check();

    private ErrorTest() {
    }

    public static void main(String[] args) {
        ErrorTest test = new ErrorTest();
        test.errorsGoOut();
        test.errorsComeIn();
        test.wrongOnesGoNowhere();
        test.wrongOnesStayOutside();
        test.adjustedToZero();
        test.flowsStayAsTheyAre();
        test.check.end();
    }

    private PortTranslator withFlows() {
        PortTranslator x = new PortTranslator();
        Packets.route(x, true, Packets.udp(Packets.OTHER_HOST, 9, SERVER, 9));
        Packets.route(x, true, Packets.udp(HOST, 5000, SERVER, 53));
        Packets.route(x, true, Packets.tcp(HOST, 6000, SERVER, 80, Packets.SYN));
        Packets.route(x, true, Packets.echo(Packets.REQUEST, HOST, SERVER, 77));
        return x;
    }

    private void errorsGoOut() {
        for (int type : new int[] {3, 11}) {
            PortTranslator x = withFlows();
            goesOut(x, type, "UDP", Packets.udp(SERVER, 53, HOST, 5000), Packets.udp(SERVER, 53, OWN, 40001));
            goesOut(x, type, "UDP without checksum", Packets.udpWithoutChecksum(SERVER, 53, HOST, 5000),
                    Packets.udpWithoutChecksum(SERVER, 53, OWN, 40001));
            goesOut(x, type, "TCP", Packets.tcp(SERVER, 80, HOST, 6000, Packets.ACK),
                    Packets.tcp(SERVER, 80, OWN, 40000, Packets.ACK));
            goesOut(x, type, "ECHO", Packets.echo(Packets.REPLY, SERVER, HOST, 77),
                    Packets.echo(Packets.REPLY, SERVER, OWN, 40000));
            goesOut(x, type, "ECHO with w10 2048", Packets.echo(Packets.REQUEST, SERVER, HOST, 77),
                    Packets.echo(Packets.REQUEST, SERVER, OWN, 40000));
        }
    }

    /** Checksums that were right are right again when they are adjusted. */
    private void goesOut(PortTranslator x, int type, String what, int[] about, int[] becomes) {
        check.due("an error out about " + what,
                Packets.route(x, true, Packets.error(type, HOST, SERVER, about)), 0);
        Packets.dueLatest(check, what, x, Packets.error(type, OWN, SERVER, becomes));
        check.due("an error out to another router about " + what,
                Packets.route(x, true, Packets.error(type, HOST, ROUTER, about)), 0);
        Packets.dueLatest(check, what, x, Packets.error(type, OWN, ROUTER, becomes));
    }

    private void errorsComeIn() {
        for (int type : new int[] {3, 11}) {
            PortTranslator x = withFlows();
            comesIn(x, type, "UDP", Packets.udp(OWN, 40001, SERVER, 53), Packets.udp(HOST, 5000, SERVER, 53));
            comesIn(x, type, "UDP without checksum", Packets.udpWithoutChecksum(OWN, 40001, SERVER, 53),
                    Packets.udpWithoutChecksum(HOST, 5000, SERVER, 53));
            comesIn(x, type, "TCP", Packets.tcp(OWN, 40000, SERVER, 80, Packets.SYN),
                    Packets.tcp(HOST, 6000, SERVER, 80, Packets.SYN));
            comesIn(x, type, "ECHO", Packets.echo(Packets.REQUEST, OWN, SERVER, 40000),
                    Packets.echo(Packets.REQUEST, HOST, SERVER, 77));
        }
        PortTranslator x = withFlows();
        int[] wrong = Packets.error(3, SERVER, OWN, Packets.udp(OWN, 40001, SERVER, 53));
        wrong = Packets.with(Packets.with(wrong, 19, 12345), 27, 54321);
        check.due("an error with wrong checksums inside", Packets.route(x, false, wrong), 0);
        check.due("at(19)", x.at(19), Packets.adjusted(12345, OWN >>> 16, HOST >>> 16,
                OWN & 65535, HOST & 65535));
        check.due("at(27)", x.at(27), Packets.adjusted(54321, OWN >>> 16, HOST >>> 16,
                OWN & 65535, HOST & 65535, 40001, 5000));
        int[] tcp = Packets.error(3, SERVER, OWN, Packets.tcp(OWN, 40000, SERVER, 80, Packets.SYN));
        Packets.route(x, false, Packets.with(tcp, 27, 999));
        check.due("at(27) of TCP stays", x.at(27), 999);
        check.due("at(25) of TCP stays", x.at(25), 80);
        int[] echo = Packets.error(3, SERVER, OWN, Packets.echo(Packets.REQUEST, OWN, SERVER, 40000));
        Packets.route(x, false, Packets.with(Packets.with(echo, 25, 4242), 27, 999));
        check.due("at(27) of ECHO stays", x.at(27), 999);
        check.due("at(25) of ECHO", x.at(25), Packets.adjusted(4242, 40000, 77));
        check.due("at(24) of ECHO stays", x.at(24), 2048);
    }

    private void comesIn(PortTranslator x, int type, String what, int[] about, int[] becomes) {
        check.due("an error in about " + what,
                Packets.route(x, false, Packets.error(type, SERVER, OWN, about)), 0);
        Packets.dueLatest(check, what, x, Packets.error(type, SERVER, HOST, becomes));
        check.due("an error in from a router about " + what,
                Packets.route(x, false, Packets.error(type, ROUTER, OWN, about)), 0);
        Packets.dueLatest(check, what, x, Packets.error(type, ROUTER, HOST, becomes));
    }

    private void wrongOnesGoNowhere() {
        PortTranslator x = withFlows();
        int[] about = Packets.udp(SERVER, 53, HOST, 5000);
        out(x, "from another host", Packets.error(3, Packets.OTHER_HOST, SERVER, about));
        out(x, "from outside", Packets.error(3, ROUTER, SERVER, about));
        out(x, "from the own address", Packets.error(3, OWN, SERVER, about));
        out(x, "to the own address", Packets.error(3, HOST, OWN, about));
        out(x, "to the inside", Packets.error(3, HOST, Packets.OTHER_HOST, about));
        out(x, "from another server", about(Packets.udp(ROUTER, 53, HOST, 5000)));
        out(x, "from another port", about(Packets.udp(SERVER, 54, HOST, 5000)));
        out(x, "to another port", about(Packets.udp(SERVER, 53, HOST, 5001)));
        out(x, "to the own port", about(Packets.udp(SERVER, 53, OWN, 40001)));
        out(x, "of another kind", about(Packets.tcp(SERVER, 53, HOST, 5000, 0)));
        out(x, "the way out", about(Packets.udp(HOST, 5000, SERVER, 53)));
        out(x, "of ECHO with another port", about(Packets.echo(Packets.REPLY, SERVER, HOST, 78)));
        check.due("flows()", x.flows(), 4);
    }

    private int[] about(int[] packet) {
        return Packets.error(3, HOST, SERVER, packet);
    }

    private void out(PortTranslator x, String what, int[] packet) {
        check.due("an error out " + what, Packets.route(x, true, packet), 5);
    }

    private void wrongOnesStayOutside() {
        PortTranslator x = withFlows();
        int[] about = Packets.udp(OWN, 40001, SERVER, 53);
        in(x, "from the inside", Packets.error(3, HOST, OWN, about));
        in(x, "from the own address", Packets.error(3, OWN, OWN, about));
        in(x, "to the inside", Packets.error(3, SERVER, HOST, about));
        in(x, "to the outside", Packets.error(3, SERVER, ROUTER, about));
        in(x, "about the inner address", Packets.error(3, SERVER, OWN, Packets.udp(HOST, 40001, SERVER, 53)));
        in(x, "about the inner end", Packets.error(3, SERVER, OWN, Packets.udp(HOST, 5000, SERVER, 53)));
        in(x, "about an outside one", Packets.error(3, SERVER, OWN, Packets.udp(ROUTER, 40001, SERVER, 53)));
        in(x, "about another own port", Packets.error(3, SERVER, OWN, Packets.udp(OWN, 40002, SERVER, 53)));
        in(x, "about another flow's port", Packets.error(3, SERVER, OWN, Packets.udp(OWN, 40000, SERVER, 53)));
        in(x, "about another server", Packets.error(3, SERVER, OWN, Packets.udp(OWN, 40001, ROUTER, 53)));
        in(x, "about another outer port", Packets.error(3, SERVER, OWN, Packets.udp(OWN, 40001, SERVER, 54)));
        in(x, "about another kind", Packets.error(3, SERVER, OWN, Packets.tcp(OWN, 40001, SERVER, 53, 0)));
        in(x, "the way in", Packets.error(3, SERVER, OWN, Packets.udp(SERVER, 53, OWN, 40001)));
        check.due("flows()", x.flows(), 4);
    }

    private void in(PortTranslator x, String what, int[] packet) {
        check.due("an error in " + what, Packets.route(x, false, packet), 5);
    }

    /** The document lets an adjusted checksum be 0, also of kind 17. */
    private void adjustedToZero() {
        PortTranslator x = withFlows();
        int[] error = Packets.error(3, SERVER, OWN, Packets.udp(OWN, 40001, SERVER, 53));
        // The checksum that the opposite change makes of 0.
        int c = Packets.adjusted(0, HOST >>> 16, OWN >>> 16, HOST & 65535, OWN & 65535, 5000, 40001);
        check.due("an error whose w27 becomes 0",
                Packets.route(x, false, Packets.with(error, 27, c)), 0);
        check.due("at(27)", x.at(27), 0);
        Packets.route(x, false, Packets.with(error, 27, 65535));
        check.due("at(27) that was 65535", x.at(27), Packets.adjusted(65535, OWN >>> 16, HOST >>> 16,
                OWN & 65535, HOST & 65535, 40001, 5000));
    }

    private void flowsStayAsTheyAre() {
        PortTranslator x = withFlows();
        x.tick(5);
        int[] about = Packets.tcp(OWN, 40000, SERVER, 80, Packets.SYN | Packets.ACK | Packets.RST | Packets.FIN);
        Packets.route(x, false, Packets.error(3, SERVER, OWN, about));
        Packets.route(x, true, Packets.error(3, HOST, SERVER, Packets.tcp(SERVER, 80, HOST, 6000, 31)));
        check.due("flows()", x.flows(), 4);
        check.due("the age", x.flow(2, 6), 5);
        check.due("what SYN and FIN did", x.flow(2, 7), 0);
        // Words that would be flags in TCP are no flags in an error.
        int[] flags = Packets.with(Packets.error(3, SERVER, OWN, about), 16, 5 << 12 | 31);
        check.due("an error with such words", Packets.route(x, false, flags), 0);
        check.due("flows() then", x.flows(), 4);
        PortTranslator empty = new PortTranslator();
        out(empty, "without a flow", about(Packets.udp(SERVER, 53, HOST, 5000)));
        check.due("flows() without one", empty.flows(), 0);
    }
}
