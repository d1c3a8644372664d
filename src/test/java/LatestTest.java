/** Promises 5 and 6: length and at. */
final class LatestTest {
    private LatestTest() {
    }

    public static void main(String[] args) {
        Check check = new Check();
        PortTranslator x = new PortTranslator();
        check.due("length() of nothing", x.length(), 0);
        outside(check, x, 0);
        int[] first = Packets.udp(Packets.HOST, 5000, Packets.SERVER, 53, 65535, 0, 32768);
        Packets.feed(x, first);
        check.due("length() before route", x.length(), 0);
        x.route(true);
        check.due("length()", x.length(), 17);
        check.due("at(14)", x.at(14), 65535);
        check.due("at(16)", x.at(16), 32768);
        check.due("at(0)", x.at(0), first[0]);
        outside(check, x, 17);

        Packets.feed(x, Packets.resized(first, 48));
        check.due("length() with a draft", x.length(), 17);
        check.due("at(12) with a draft", x.at(12), 14);
        x.route(true);
        check.due("length() of the longest", x.length(), 48);
        check.due("at(47)", x.at(47), 0);
        outside(check, x, 48);

        Packets.route(x, true, Packets.udp(Packets.HOST, 5000, Packets.SERVER, 53));
        check.due("length() of a shorter one", x.length(), 14);
        outside(check, x, 14);
        Packets.route(x, true, Packets.resized(first, 48));
        Packets.route(x, false, first);
        check.due("length() after a refusal", x.length(), 48);
        x.scrap();
        x.tick(100);
        check.due("length() when its flow has ended", x.length(), 48);
        check.due("at(10) when its flow has ended", x.at(10), 40000);
        check.end();
    }

    private static void outside(Check check, PortTranslator x, int size) {
        for (int i : new int[] {-1, size, size + 1, Integer.MIN_VALUE, Integer.MAX_VALUE}) {
            check.dueThrow("at(" + i + ")", () -> x.at(i), IndexOutOfBoundsException.class);
        }
        if (size < 48) {
            check.dueThrow("at(47)", () -> x.at(47), IndexOutOfBoundsException.class);
        }
    }
}
