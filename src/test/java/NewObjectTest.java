/** Promise 1: a new object has no flows, no rules, an empty draft, and nothing routed. */
final class NewObjectTest {
    private NewObjectTest() {
    }

    public static void main(String[] args) {
        Check check = new Check();
        PortTranslator x = new PortTranslator();
        check.due("NONE", PortTranslator.NONE, -1);
        check.due("flows()", x.flows(), 0);
        check.due("length()", x.length(), 0);
        check.dueThrow("at(0)", () -> x.at(0), IndexOutOfBoundsException.class);
        check.dueThrow("flow(0, 0)", () -> x.flow(0, 0), IndexOutOfBoundsException.class);
        for (int kind : new int[] {0, 1, 6, 17}) {
            check.due("bindings(" + kind + ")", x.bindings(kind), 0);
        }
        for (int k = 0; k < 4; k++) {
            int number = k;
            check.dueThrow("forget(" + k + ")", () -> x.forget(number), IllegalArgumentException.class);
        }
        check.due("tick(100)", x.tick(100), 0);
        check.due("route(true) of an empty draft", x.route(true), 1);
        check.due("route(false) of an empty draft", x.route(false), 1);
        check.due("length() after that", x.length(), 0);
        check.due("rule(2, ..)", x.rule(2, 0, 0, 0, true), 1);
        objectsAreApart(check);
        check.end();
    }

    private static void objectsAreApart(Check check) {
        PortTranslator one = new PortTranslator();
        PortTranslator two = new PortTranslator();
        int[] packet = Packets.udp(Packets.HOST, 5000, Packets.SERVER, 53);
        Packets.route(one, true, packet);
        one.rule(0, 0, 0, 0, false);
        Packets.feed(one, packet);
        check.due("flows() of another object", two.flows(), 0);
        check.due("length() of another object", two.length(), 0);
        check.due("route(true) of another object's draft", two.route(true), 1);
        check.due("route(true) under another object's rules", Packets.route(two, true, packet), 0);
    }
}
