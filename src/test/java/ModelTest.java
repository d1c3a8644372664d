import java.util.Map;
import java.util.Random;
import java.util.TreeMap;

/** All promises: long runs of calls, drawn from a fixed seed, against the model. */
final class ModelTest {
    private static final int RUNS = 4000;
    private static final int MOST_CALLS = 512;
    private static final int[] HOSTS = {167772160, 167772415, 167772165, 167772165};
    private static final int[] SERVERS = {134744072, 134744073, -1, 0, 167772159, 167772416};
    private static final int[] PORTS = {0, 53, 5000, 40000, 65535};
    private static final int[] KINDS = {6, 17, 1};

    private final Check check = new Check();
    private final Map<String, Integer> ways = new TreeMap<>();
    private Random random;
    private PortTranslator x;
    private Model model;
    private int run;
    private int calls;
    /** Every second run is crowded: flows begin often and seldom end, so that room runs out. */
    private boolean crowded;

    private ModelTest() {
    }

    public static void main(String[] args) {
        ModelTest test = new ModelTest();
        for (int run = 0; run < RUNS; run++) {
            test.play(run);
        }
        test.everyWayWasTaken();
        test.check.end();
    }

    private void play(int number) {
        run = number;
        calls = 0;
        crowded = number % 2 == 0;
        random = new Random(number);
        x = new PortTranslator();
        model = new Model();
        // The last calls are left for the comparison of all flows.
        while (calls < MOST_CALLS - 150) {
            step();
        }
        compareFlows();
        model.ways.forEach((way, times) -> ways.merge(way, times, Integer::sum));
    }

    private void step() {
        int dice = random.nextInt(100);
        if (dice < 70) {
            send(crowded ? random.nextInt(5) != 0 : random.nextBoolean());
        } else if (dice < 76) {
            tick(crowded ? random.nextInt(2) : someTicks());
        } else if (dice < 80) {
            rule();
        } else if (dice < 82) {
            forget(random.nextInt(6) - 1);
        } else if (dice < 84) {
            x.scrap();
            model.draft.clear();
            calls++;
        } else if (dice < 86) {
            put(random.nextInt(7) - 1, random.nextLong());
        } else if (dice < 92) {
            int which = random.nextInt(10) - 1;
            flow(random.nextInt(model.flows.size() + 2) - 1, which);
        } else {
            compareCounts();
        }
    }

    private int someTicks() {
        return random.nextInt(8) == 0 ? random.nextInt(110) - 4 : 1 + random.nextInt(8);
    }

    private void send(boolean out) {
        int[] w = packet(out);
        if (random.nextInt(12) == 0) {
            int i = random.nextInt(w.length);
            w[i] = random.nextBoolean() ? random.nextInt(65536) : w[i] ^ 1 << random.nextInt(16);
            if (random.nextBoolean()) {
                Packets.seal(w);
            }
        }
        for (int i = 0; i < w.length;) {
            int n = Math.min(w.length - i, random.nextInt(10) == 0 ? 1 + random.nextInt(4) : 4);
            long bits = n < 4 ? random.nextLong() << (16 * n) : 0;
            for (int j = 0; j < n; j++) {
                bits |= (long) w[i + j] << (16 * (n - 1 - j));
            }
            put(n, bits);
            i += n;
        }
        boolean side = random.nextInt(30) == 0 ? !out : out;
        calls++;
        due("route(" + side + ")", x.route(side), model.route(side));
        comparePacket();
    }

    private int pick(int[] some) {
        return some[random.nextInt(some.length)];
    }

    private int anyAddress() {
        int dice = random.nextInt(4);
        return dice == 0 ? Model.OWN : dice == 1 ? random.nextInt() : dice == 2 ? pick(HOSTS) : pick(SERVERS);
    }

    /** The words of a packet, mostly of a flow that there is or could be. */
    private int[] packet(boolean out) {
        int kind = pick(KINDS);
        int host = pick(HOSTS);
        int hostPort = pick(PORTS) ^ random.nextInt(2);
        int server = pick(SERVERS);
        int serverPort = pick(PORTS);
        int ownPort = 40000 + random.nextInt(6);
        if (!model.flows.isEmpty() && random.nextInt(4) >= (crowded ? 3 : 1)) {
            int[] f = model.flows.get(random.nextInt(model.flows.size()));
            kind = f[0];
            host = f[1];
            hostPort = f[2];
            server = f[3];
            serverPort = kind == 1 ? serverPort : f[4];
            ownPort = f[5];
        }
        int odd = random.nextInt(40);
        host = odd == 0 ? anyAddress() : host;
        server = odd == 1 ? anyAddress() : server;
        int here = out ? host : Model.OWN;
        int herePort = out ? hostPort : ownPort;
        if (random.nextInt(4) == 0) {
            int[] about = out ? simple(kind, server, serverPort, here, herePort)
                    : simple(kind, here, herePort, server, serverPort);
            return error(out, here, server, about);
        }
        return time(out ? simple(kind, here, herePort, server, serverPort)
                : simple(kind, server, serverPort, here, herePort));
    }

    private int[] error(boolean out, int here, int server, int[] about) {
        if (random.nextInt(8) == 0) {
            about[random.nextInt(14)] = random.nextInt(65536);
        }
        int far = random.nextInt(3) == 0 ? anyAddress() : server;
        int near = random.nextInt(12) == 0 ? anyAddress() : here;
        int type = random.nextInt(20) == 0 ? random.nextInt(256) : random.nextBoolean() ? 3 : 11;
        int[] w = Packets.error(type, out ? near : far, out ? far : near, about);
        return time(random.nextInt(10) == 0 ? Packets.resized(w, 26 + random.nextInt(23)) : w);
    }

    private int[] time(int[] w) {
        return random.nextInt(20) == 0 ? Packets.with(w, 4, random.nextInt(4) << 8 | w[4] & 255) : w;
    }

    private int[] simple(int kind, int from, int fromPort, int to, int toPort) {
        int[] data = new int[random.nextInt(3)];
        for (int i = 0; i < data.length; i++) {
            data[i] = random.nextInt(65536);
        }
        if (kind == 6) {
            int flags = random.nextInt(3) == 0 ? random.nextInt(4096)
                    : pick(new int[] {2, 2, 18, 16, 17, 1, 20});
            return Packets.tcp(from, fromPort, to, toPort, flags, data);
        }
        if (kind == 17) {
            return random.nextInt(4) == 0 ? Packets.udpWithoutChecksum(from, fromPort, to, toPort, data)
                    : zeroChecksum(Packets.udp(from, fromPort, to, toPort, data));
        }
        // The port of an ECHO is the one on this network's side.
        boolean leaves = from == Model.OWN || from >= 167772160 && from <= 167772415;
        int type = random.nextInt(6) == 0 ? pick(new int[] {0, 2048}) : leaves ? 2048 : 0;
        return Packets.echo(type, from, to, leaves ? fromPort : toPort, data);
    }

    /** Now and then the data make it a packet whose checksum is the odd one, 65535. */
    private int[] zeroChecksum(int[] w) {
        if (w.length == 14 || random.nextInt(6) != 0) {
            return w;
        }
        w[14] = 0;
        Packets.seal(w);
        return Packets.with(w, 14, w[13]);
    }

    private void put(int n, long words) {
        calls++;
        due("put(" + n + ", " + words + ")", x.put(n, words) ? 1 : 0, model.put(n, words) ? 1 : 0);
    }

    private void tick(int n) {
        calls++;
        if (n < 1 || n > 100) {
            check.dueThrow(at("tick(" + n + ")"), () -> x.tick(n), IllegalArgumentException.class);
        } else {
            due("tick(" + n + ")", x.tick(n), model.tick(n));
        }
    }

    private void rule() {
        calls++;
        int k = random.nextInt(16) == 0 ? 4 : random.nextInt(4);
        int kind = random.nextInt(16) == 0 ? random.nextInt(20) : pick(new int[] {0, 1, 6, 17});
        int network = pick(SERVERS) ^ random.nextInt(3);
        int bits = random.nextInt(16) == 0 ? random.nextInt(36) - 2 : pick(new int[] {0, 1, 24, 31, 32});
        boolean permits = crowded || random.nextInt(3) != 0;
        boolean wrong = k > 3 || kind != 0 && kind != 1 && kind != 6 && kind != 17 || bits < 0 || bits > 32;
        if (wrong) {
            check.dueThrow(at("rule"), () -> x.rule(k, kind, network, bits, permits),
                    IllegalArgumentException.class);
        } else {
            model.rules[k] = new int[] {kind, network, bits, permits ? 1 : 0};
            due("rule", x.rule(k, kind, network, bits, permits), model.ruleCount());
        }
    }

    private void forget(int k) {
        calls++;
        if (k < 0 || k > 3 || model.rules[k] == null) {
            check.dueThrow(at("forget(" + k + ")"), () -> x.forget(k), IllegalArgumentException.class);
        } else {
            model.rules[k] = null;
            due("forget(" + k + ")", x.forget(k), model.ruleCount());
        }
    }

    private void flow(int k, int which) {
        calls++;
        if (k < 0 || k >= model.flows.size()) {
            check.dueThrow(at("flow"), () -> x.flow(k, which), IndexOutOfBoundsException.class);
        } else if (which < 0 || which > 7) {
            check.dueThrow(at("flow"), () -> x.flow(k, which), IllegalArgumentException.class);
        } else {
            due("flow(" + k + ", " + which + ")", x.flow(k, which), model.flows.get(k)[which]);
        }
    }

    private void compareCounts() {
        calls += 4;
        due("flows()", x.flows(), model.flows.size());
        for (int kind : KINDS) {
            due("bindings(" + kind + ")", x.bindings(kind), model.bindings(kind));
        }
    }

    /** Looking at all words would use up the calls, so some words stand for all. */
    private void comparePacket() {
        calls++;
        due("length()", x.length(), model.latest.length);
        if (random.nextInt(3) != 0 || x.length() != model.latest.length) {
            return;
        }
        for (int i = 0; i < 8 && model.latest.length > 0; i++) {
            calls++;
            int word = random.nextInt(model.latest.length);
            due("at(" + word + ")", x.at(word), model.latest[word]);
        }
    }

    private void compareFlows() {
        compareCounts();
        for (int k = 0; k < model.flows.size(); k++) {
            for (int which = 0; which < 8; which++) {
                flow(k, which);
            }
        }
    }

    private String at(String what) {
        return "run " + run + ", call " + calls + ": " + what;
    }

    private void due(String what, long got, long want) {
        check.due(got == want ? what : at(what), got, want);
    }

    private void everyWayWasTaken() {
        for (String way : new String[] {"out 1", "out 3", "out 5", "out 6", "in 1", "in 3", "in 5"}) {
            wasTaken(way);
        }
        for (String way : new String[] {"out", "in"}) {
            for (int kind : KINDS) {
                wasTaken(way + " 0 of kind " + kind);
                wasTaken(way + " 0 of kind 1, error about kind " + kind);
            }
        }
    }

    private void wasTaken(String way) {
        int times = ways.getOrDefault(way, 0);
        System.out.println(way + ": " + times + " times");
        check.due("enough of " + way, times >= 100, true);
    }
}
