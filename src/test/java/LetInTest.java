import java.util.Arrays;

/** Promise 4: routing packets that are no errors from outside. */
final class LetInTest {
    private static final int HOST = Packets.HOST;
    private static final int SERVER = Packets.SERVER;
    private static final int OWN = Packets.OWN;

    private final Check check = new Check();

    private LetInTest() {
    }

    public static void main(String[] args) {
        LetInTest test = new LetInTest();
        test.answersAreTranslated();
        test.strangersAreRefused();
        test.addresses();
        test.bindingsLeadToTheirHosts();
        test.check.end();
    }

    private PortTranslator withFlows() {
        PortTranslator x = new PortTranslator();
        Packets.route(x, true, Packets.udp(HOST, 5000, SERVER, 53));
        Packets.route(x, true, Packets.tcp(HOST, 6000, SERVER, 80, Packets.SYN));
        Packets.route(x, true, Packets.echo(Packets.REQUEST, HOST, SERVER, 77));
        return x;
    }

    private void answersAreTranslated() {
        PortTranslator x = withFlows();
        check.due("UDP", Packets.route(x, false, Packets.udp(SERVER, 53, OWN, 40000, 1, 2)), 0);
        Packets.dueLatest(check, "UDP", x, Packets.udp(SERVER, 53, HOST, 5000, 1, 2));
        check.due("UDP without checksum", Packets.route(x, false,
                Packets.udpWithoutChecksum(SERVER, 53, OWN, 40000)), 0);
        Packets.dueLatest(check, "UDP without checksum", x,
                Packets.udpWithoutChecksum(SERVER, 53, HOST, 5000));
        check.due("TCP", Packets.route(x, false,
                Packets.tcp(SERVER, 80, OWN, 40000, Packets.ACK, 4)), 0);
        Packets.dueLatest(check, "TCP", x, Packets.tcp(SERVER, 80, HOST, 6000, Packets.ACK, 4));
        check.due("ECHO", Packets.route(x, false,
                Packets.echo(Packets.REPLY, SERVER, OWN, 40000, 6)), 0);
        Packets.dueLatest(check, "ECHO", x, Packets.echo(Packets.REPLY, SERVER, HOST, 77, 6));
        int[] hidden = Packets.udp(SERVER, 53, HOST, 5000, 0);
        hidden = Packets.udp(SERVER, 53, OWN, 40000, hidden[13]);
        check.due("UDP that gets the checksum 0", Packets.route(x, false, hidden), 0);
        check.due("at(13)", x.at(13), 65535);
    }

    private void strangersAreRefused() {
        PortTranslator x = withFlows();
        int[] before = Packets.latest(x);
        int[][] strangers = {
            Packets.udp(Packets.OTHER_SERVER, 53, OWN, 40000),
            Packets.udp(SERVER, 54, OWN, 40000),
            Packets.udp(SERVER, 53, OWN, 40001),
            Packets.udp(SERVER, 53, OWN, 5000),
            Packets.udp(SERVER, 80, OWN, 40000),
            Packets.tcp(SERVER, 53, OWN, 40000, Packets.ACK),
            Packets.tcp(SERVER, 80, OWN, 40001, Packets.SYN),
            Packets.echo(Packets.REPLY, Packets.OTHER_SERVER, OWN, 40000),
            Packets.echo(Packets.REPLY, SERVER, OWN, 77),
            Packets.echo(Packets.REQUEST, SERVER, OWN, 40000)};
        for (int i = 0; i < strangers.length; i++) {
            check.due("stranger " + i, Packets.route(x, false, strangers[i]), 5);
        }
        check.due("flows()", x.flows(), 3);
        check.due("what was routed stays", Arrays.equals(before, Packets.latest(x)), true);
        check.due("the draft is empty", x.route(false), 1);
        PortTranslator none = new PortTranslator();
        check.due("without any flow", Packets.route(none, false, Packets.udp(SERVER, 53, OWN, 40000)), 5);
        check.due("a flow that never was, of zeros",
                Packets.route(none, false, Packets.udp(0, 0, OWN, 0)), 5);
    }

    private void addresses() {
        PortTranslator x = withFlows();
        check.due("to the inside", Packets.route(x, false, Packets.udp(SERVER, 53, HOST, 40000)), 5);
        check.due("to the outside",
                Packets.route(x, false, Packets.udp(SERVER, 53, Packets.OTHER_SERVER, 40000)), 5);
        check.due("from the inside", Packets.route(x, false, Packets.udp(HOST, 53, OWN, 40000)), 5);
        check.due("from the own address", Packets.route(x, false, Packets.udp(OWN, 53, OWN, 40000)), 5);
        check.due("out what should come in",
                Packets.route(x, true, Packets.udp(SERVER, 53, OWN, 40000)), 5);
        check.due("in what should go out",
                Packets.route(x, false, Packets.udp(HOST, 5000, SERVER, 53)), 5);
    }

    private void bindingsLeadToTheirHosts() {
        PortTranslator x = new PortTranslator();
        Packets.route(x, true, Packets.udp(HOST, 7, SERVER, 53));
        Packets.route(x, true, Packets.udp(Packets.OTHER_HOST, 7, SERVER, 53));
        Packets.route(x, true, Packets.udp(HOST, 7, Packets.OTHER_SERVER, 54));
        check.due("in by 40001", Packets.route(x, false, Packets.udp(SERVER, 53, OWN, 40001)), 0);
        Packets.dueLatest(check, "in by 40001", x, Packets.udp(SERVER, 53, Packets.OTHER_HOST, 7));
        check.due("in by 40000", Packets.route(x, false,
                Packets.udp(Packets.OTHER_SERVER, 54, OWN, 40000)), 0);
        Packets.dueLatest(check, "in by 40000", x, Packets.udp(Packets.OTHER_SERVER, 54, HOST, 7));
        check.due("of the other binding", Packets.route(x, false,
                Packets.udp(Packets.OTHER_SERVER, 54, OWN, 40001)), 5);
    }
}
