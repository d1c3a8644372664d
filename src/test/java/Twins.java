import java.util.ArrayList;
import java.util.Arrays;
import java.util.List;
import java.util.function.Consumer;
import java.util.function.ToIntFunction;

/**
 * Shows that a call changed nothing: of two objects that went through the same calls one gets the
 * call in question, and then both must answer alike to all that can be asked of an object.
 */
final class Twins {
    private static final int[] KINDS = {17, 6, 1};

    private final Check check;
    private final Consumer<PortTranslator> scene;

    Twins(Check check, Consumer<PortTranslator> scene) {
        this.check = check;
        this.scene = scene;
    }

    PortTranslator made() {
        PortTranslator x = new PortTranslator();
        scene.accept(x);
        return x;
    }

    /** The answer that is due; any other than 0 leaves all as if the packet had been scrapped. */
    void due(String what, boolean out, int[] packet, int want) {
        PortTranslator asked = made();
        PortTranslator spared = made();
        check.due(what, Packets.route(asked, out, packet), want);
        if (want != 0) {
            Packets.feed(spared, packet);
            spared.scrap();
            same(what, asked, spared);
        }
    }

    /** Routing OUT and IN is due to answer this. */
    void dueBothWays(String what, int[] packet, int want) {
        due(what + ", out", true, packet, want);
        due(what + ", in", false, packet, want);
    }

    /** A call that throws changes nothing, be the draft empty, begun, or ready to be routed. */
    void dueThrow(String what, ToIntFunction<PortTranslator> call, Class<? extends RuntimeException> want) {
        int[] packet = Scenes.udpOut(1, 2, 3);
        for (int begun : new int[] {0, 7, packet.length}) {
            PortTranslator asked = made();
            PortTranslator spared = made();
            feed(asked, packet, 0, begun);
            feed(spared, packet, 0, begun);
            check.dueThrow(what, () -> call.applyAsInt(asked), want);
            feed(asked, packet, begun, packet.length);
            feed(spared, packet, begun, packet.length);
            same(what, asked, spared);
        }
    }

    /** A put that answers false behind so many words of a packet changes nothing. */
    void dueFalse(String what, int[] packet, int begun, int n, long words) {
        PortTranslator asked = made();
        PortTranslator spared = made();
        feed(asked, packet, 0, begun);
        feed(spared, packet, 0, begun);
        check.due(what, asked.put(n, words), false);
        feed(asked, packet, begun, packet.length);
        feed(spared, packet, begun, packet.length);
        same(what, asked, spared);
    }

    private static void feed(PortTranslator x, int[] packet, int start, int end) {
        Packets.feed(x, Arrays.copyOfRange(packet, start, end));
    }

    /** Uses both objects up. */
    private void same(String what, PortTranslator asked, PortTranslator spared) {
        List<String> got = all(asked);
        List<String> want = all(spared);
        int i = 0;
        while (i < got.size() && i < want.size() && got.get(i).equals(want.get(i))) {
            i++;
        }
        boolean alike = i == got.size() && i == want.size();
        String first = alike ? "" : ": " + (i < got.size() ? got.get(i) : "nothing")
                + ", due is " + (i < want.size() ? want.get(i) : "nothing") + ";";
        check.due(what + " changes nothing" + first, alike, true);
    }

    /** All answers of an object, in an order that lets it show its draft and its rules, too. */
    private static List<String> all(PortTranslator x) {
        List<String> seen = new ArrayList<>();
        addLatest(seen, x);
        addFlows(seen, x, 0);
        for (int kind : KINDS) {
            add(seen, "bindings(" + kind + ")", () -> x.bindings(kind));
        }
        add(seen, "route(true)", () -> x.route(true));
        addLatest(seen, x);
        addFlows(seen, x, 6);
        add(seen, "tick(1)", () -> x.tick(1));
        add(seen, "tick(100)", () -> x.tick(100));
        add(seen, "tick(100)", () -> x.tick(100));
        for (int k = 0; k < 4; k++) {
            addPermissions(seen, x);
            int number = k;
            add(seen, "forget(" + k + ")", () -> x.forget(number));
        }
        return seen;
    }

    private static void addLatest(List<String> seen, PortTranslator x) {
        int length = x.length();
        seen.add("length() " + length);
        for (int i = 0; i < length; i++) {
            int word = i;
            add(seen, "at(" + i + ")", () -> x.at(word));
        }
    }

    private static void addFlows(List<String> seen, PortTranslator x, int firstDetail) {
        int flows = x.flows();
        seen.add("flows() " + flows);
        for (int k = 0; k < flows; k++) {
            for (int which = firstDetail; which < 8; which++) {
                int number = k;
                int detail = which;
                add(seen, "flow(" + k + ", " + which + ")", () -> x.flow(number, detail));
            }
        }
    }

    /** What the rules say of new flows, as the rules can't be asked themselves. */
    private static void addPermissions(List<String> seen, PortTranslator x) {
        for (int kind : KINDS) {
            for (int to : new int[] {Packets.SERVER, Packets.OTHER_SERVER}) {
                int[] packet = Scenes.first(kind, Packets.OTHER_HOST, 1, to, 2);
                add(seen, "a new flow of kind " + kind, () -> Packets.route(x, true, packet));
            }
        }
        add(seen, "tick(100)", () -> x.tick(100));
    }

    private static void add(List<String> seen, String what, Check.Call call) {
        String answer;
        try {
            answer = "" + call.answer();
        } catch (RuntimeException e) {
            answer = "throws " + e.getClass().getName();
        }
        seen.add(what + " " + answer);
    }
}
