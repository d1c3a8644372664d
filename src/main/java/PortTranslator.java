/**
 * Stands between the hosts of one network and all others: packets that its rules permit go out in
 * its own name and from ports of its own, and what belongs to them comes back in.
 */
public final class PortTranslator {
    public static final int NONE = -1;

    private static final int ROUTED = 0;
    private static final int MALFORMED = 1;
    private static final int TIME_IS_UP = 3;
    private static final int REFUSED = 5;
    private static final int FULL = 6;

    private static final int ICMP = 1;
    private static final int TCP = 6;
    private static final int UDP = 17;

    private static final int FIN = 1;
    private static final int SYN = 2;
    private static final int RST = 4;
    private static final int ACK = 16;

    private static final int OWN_ADDRESS = -969710591;
    private static final int FIRST_INSIDE = 167772160;
    private static final int LAST_INSIDE = 167772415;
    private static final int MOST_TICKS = 100;

    private final Packet draft;
    private final Packet latest;
    private final Subject subject;
    private final FlowTable table;
    private final RuleList permissions;

    public PortTranslator() {
        draft = new Packet();
        latest = new Packet();
        subject = new Subject();
        table = new FlowTable();
        permissions = new RuleList();
    }

    public boolean put(int n, long words) {
        if (n < 1 || n > 4 || !draft.hasRoomFor(n)) {
            return false;
        }
        for (int left = n - 1; left >= 0; left--) {
            draft.append((int) (words >>> (16 * left)) & Packet.WORD);
        }
        return true;
    }

    public void scrap() {
        draft.empty();
    }

    public int route(boolean out) {
        int answer = judgeDraft();
        if (answer == ROUTED) {
            subject.read(draft, out);
            answer = out ? sendOut() : letIn();
        }
        if (answer == ROUTED) {
            draft.writeChecksums();
            latest.copyFrom(draft);
        }
        draft.empty();
        return answer;
    }

    public int length() {
        return latest.size;
    }

    public int at(int i) throws IndexOutOfBoundsException {
        if (i < 0 || i >= latest.size) {
            throw new IndexOutOfBoundsException();
        }
        return latest.words[i];
    }

    public int tick(int n) throws IllegalArgumentException {
        if (n < 1 || n > MOST_TICKS) {
            throw new IllegalArgumentException();
        }
        return table.grow(n);
    }

    public int rule(int k, int kind, int network, int bits, boolean permits)
            throws IllegalArgumentException {
        if (!RuleList.isNumber(k) || !(kind == Rule.ANY_KIND || isKind(kind)) || bits < 0 || bits > 32) {
            throw new IllegalArgumentException();
        }
        permissions.rows[k].become(kind, network, bits, permits);
        return permissions.count();
    }

    public int forget(int k) throws IllegalArgumentException {
        if (!RuleList.isNumber(k) || !permissions.rows[k].isThere) {
            throw new IllegalArgumentException();
        }
        permissions.rows[k].isThere = false;
        return permissions.count();
    }

    public int flows() {
        return table.count;
    }

    public int flow(int k, int which) throws IndexOutOfBoundsException, IllegalArgumentException {
        if (k < 0 || k >= table.count) {
            throw new IndexOutOfBoundsException();
        }
        if (which < 0 || which > 7) {
            throw new IllegalArgumentException();
        }
        return table.rows[k].detail(which);
    }

    public int bindings(int kind) {
        return table.countOwnPorts(kind);
    }

    private static boolean isKind(int kind) {
        return kind == ICMP || kind == TCP || kind == UDP;
    }

    private static boolean isInside(int address) {
        return address >= FIRST_INSIDE && address <= LAST_INSIDE;
    }

    private static boolean isOutside(int address) {
        return !isInside(address) && address != OWN_ADDRESS;
    }

    private int judgeDraft() {
        if (!draft.isWellFormed()) {
            return MALFORMED;
        }
        return draft.time() < 2 ? TIME_IS_UP : ROUTED;
    }

    private int sendOut() {
        int from = draft.address(Packet.FROM);
        if (!isInside(from) || !isOutside(draft.address(Packet.TO))) {
            return REFUSED;
        }
        Flow flow = table.findByInner(subject);
        if (draft.isError()) {
            if (flow == null || flow.innerAddress != from) {
                return REFUSED;
            }
        } else if (flow == null) {
            if (!mayBeginFlow()) {
                return REFUSED;
            }
            flow = table.begin(subject);
            if (flow == null) {
                return FULL;
            }
        }
        translate(Packet.FROM, OWN_ADDRESS, flow.ownPort);
        note(flow, true);
        return ROUTED;
    }

    private int letIn() {
        if (draft.address(Packet.TO) != OWN_ADDRESS || !isOutside(draft.address(Packet.FROM))) {
            return REFUSED;
        }
        // The other packet of an error may name anyone as the one who sent it.
        if (subject.nearAddress != OWN_ADDRESS || draft.isEchoRequest()) {
            return REFUSED;
        }
        Flow flow = table.findByOwn(subject);
        if (flow == null) {
            return REFUSED;
        }
        translate(Packet.TO, flow.innerAddress, flow.innerPort);
        note(flow, false);
        return ROUTED;
    }

    private void translate(int end, int address, int port) {
        draft.lowerTime();
        draft.setAddress(end, address);
        subject.write(draft, address, port);
    }

    private boolean mayBeginFlow() {
        if (draft.isEchoReply()) {
            return false;
        }
        if (subject.kind == TCP && (draft.flags() & (SYN | ACK | RST)) != SYN) {
            return false;
        }
        return permissions.permit(subject.kind, subject.farAddress);
    }

    /** Lets the flow of the packet just routed know of it; an error does not keep a flow alive. */
    private void note(Flow flow, boolean out) {
        if (draft.isError()) {
            return;
        }
        flow.age = 0;
        if (subject.kind == TCP) {
            flow.noteFlags(draft.flags(), out);
            if ((draft.flags() & RST) != 0) {
                table.end(flow);
            }
        }
    }

    private static final class Packet {
        static final int WORD = 65535;
        static final int FROM = 6;
        static final int TO = 8;
        static final int OTHER = 14;

        private static final int MOST_WORDS = 48;
        private static final int HEADER = 10;
        private static final int VERSION = 69;
        private static final int FRAGMENT_BITS = 49151;
        private static final int KIND = 4;
        private static final int HEADER_CHECKSUM = 5;
        private static final int TCP_FLAGS = 16;
        private static final int TCP_CHECKSUM = 18;
        private static final int UDP_LENGTH = 12;
        private static final int UDP_CHECKSUM = 13;
        private static final int ICMP_CHECKSUM = 11;
        private static final int ECHO_REQUEST = 2048;
        private static final int ECHO_REPLY = 0;
        private static final int OTHER_END = 28;

        final int[] words = new int[MOST_WORDS];
        int size;

        boolean hasRoomFor(int n) {
            return n <= MOST_WORDS - size;
        }

        void append(int word) {
            if (size < MOST_WORDS) {
                words[size] = word;
                size++;
            }
        }

        void empty() {
            size = 0;
        }

        void copyFrom(Packet other) {
            System.arraycopy(other.words, 0, words, 0, MOST_WORDS);
            size = other.size;
        }

        boolean isWellFormed() {
            if (size < HEADER || words[0] >> 8 != VERSION || words[1] != 2 * size) {
                return false;
            }
            if ((words[3] & FRAGMENT_BITS) != 0 || sum(total(0, HEADER)) != WORD) {
                return false;
            }
            switch (kindAt(0)) {
                case TCP:
                    return size >= 20 && words[TCP_FLAGS] >> 12 == 5 && bodyAgrees();
                case UDP:
                    return size >= 14 && words[UDP_LENGTH] == 2 * (size - HEADER)
                            && (words[UDP_CHECKSUM] == 0 || bodyAgrees());
                case ICMP:
                    return size >= 14 && bodyAgrees()
                            && (isEchoRequest() || isEchoReply() || isError() && hasOtherPacket());
                default:
                    return false;
            }
        }

        private boolean hasOtherPacket() {
            return size >= OTHER_END && words[OTHER] >> 8 == VERSION && isKind(kindAt(OTHER));
        }

        /** The kind of the packet whose header starts there: this one at 0, or the other one. */
        int kindAt(int start) {
            return words[start + KIND] & 255;
        }

        int time() {
            return words[KIND] >> 8;
        }

        void lowerTime() {
            words[KIND] -= 256;
        }

        int flags() {
            return words[TCP_FLAGS];
        }

        boolean isEchoRequest() {
            return kindAt(0) == ICMP && words[HEADER] == ECHO_REQUEST;
        }

        boolean isEchoReply() {
            return kindAt(0) == ICMP && words[HEADER] == ECHO_REPLY;
        }

        boolean isError() {
            int type = words[HEADER] >> 8;
            return kindAt(0) == ICMP && (type == 3 || type == 11);
        }

        int address(int index) {
            return words[index] << 16 | words[index + 1];
        }

        void setAddress(int index, int address) {
            words[index] = address >>> 16;
            words[index + 1] = address & WORD;
        }

        void adjustOther(int byAddress, int byPort) {
            adjust(OTHER + HEADER_CHECKSUM, byAddress);
            int kind = kindAt(OTHER);
            if (kind == UDP && words[OTHER + UDP_CHECKSUM] != 0) {
                adjust(OTHER + UDP_CHECKSUM, byAddress + byPort);
            } else if (kind == ICMP) {
                adjust(OTHER + ICMP_CHECKSUM, byPort);
            }
        }

        private void adjust(int index, int changes) {
            words[index] = WORD - sum(WORD - words[index] + changes);
        }

        void writeChecksums() {
            words[HEADER_CHECKSUM] = 0;
            words[HEADER_CHECKSUM] = WORD - sum(total(0, HEADER));
            int kind = kindAt(0);
            if (kind == TCP) {
                writeBodyChecksum(TCP_CHECKSUM);
            } else if (kind == ICMP) {
                writeBodyChecksum(ICMP_CHECKSUM);
            } else if (words[UDP_CHECKSUM] != 0) {
                writeBodyChecksum(UDP_CHECKSUM);
                // 0 would say that there is no checksum.
                if (words[UDP_CHECKSUM] == 0) {
                    words[UDP_CHECKSUM] = WORD;
                }
            }
        }

        private void writeBodyChecksum(int index) {
            words[index] = 0;
            words[index] = WORD - sum(bodyTotal());
        }

        private boolean bodyAgrees() {
            return sum(bodyTotal()) == WORD;
        }

        private int bodyTotal() {
            int kind = kindAt(0);
            if (kind == ICMP) {
                return total(HEADER, size);
            }
            return total(FROM, size) + kind + 2 * (size - HEADER);
        }

        private int total(int start, int end) {
            int total = 0;
            for (int i = start; i < end; i++) {
                total += words[i];
            }
            return total;
        }

        /** Two carries are enough: the first leaves less than twice 65536, whatever came in. */
        private static int sum(int total) {
            int carried = (total & WORD) + (total >>> 16);
            return (carried & WORD) + (carried >>> 16);
        }
    }

    /**
     * The packet that tells the flow: the other packet of an error, and else the packet itself.
     * Both have their parts at the same distances from the start of their header. Its near end is
     * the one on this network's side, its far end the outside one.
     */
    private static final class Subject {
        private static final int FROM_PORT = 10;
        private static final int TO_PORT = 11;
        private static final int ECHO_PORT = 12;

        int kind;
        int nearAddress;
        int nearPort;
        int farAddress;
        int farPort;
        private int nearAddressIndex;
        private int nearPortIndex;

        void read(Packet packet, boolean out) {
            int start = packet.isError() ? Packet.OTHER : 0;
            // An error answers its other packet, so that one went the opposite way.
            boolean nearIsFrom = out != packet.isError();
            kind = packet.kindAt(start);
            nearAddressIndex = start + (nearIsFrom ? Packet.FROM : Packet.TO);
            nearAddress = packet.address(nearAddressIndex);
            farAddress = packet.address(start + (nearIsFrom ? Packet.TO : Packet.FROM));
            if (kind == ICMP) {
                nearPortIndex = start + ECHO_PORT;
                farPort = 0;
            } else {
                nearPortIndex = start + (nearIsFrom ? FROM_PORT : TO_PORT);
                farPort = packet.words[start + (nearIsFrom ? TO_PORT : FROM_PORT)];
            }
            nearPort = packet.words[nearPortIndex];
        }

        /** Gives the near end another address and port. */
        void write(Packet packet, int address, int port) {
            if (packet.isError()) {
                int byAddress = change(nearAddress >>> 16, address >>> 16)
                        + change(nearAddress & Packet.WORD, address & Packet.WORD);
                packet.adjustOther(byAddress, change(nearPort, port));
            }
            packet.setAddress(nearAddressIndex, address);
            packet.words[nearPortIndex] = port;
        }

        private static int change(int before, int after) {
            return Packet.WORD - before + after;
        }
    }

    private static final class Flow {
        private int kind;
        int innerAddress;
        int innerPort;
        private int outerAddress;
        private int outerPort;
        int ownPort;
        int age;
        private boolean synCameBack;
        private boolean finWentOut;
        private boolean finCameIn;

        /** The row may have held a flow that ended, so nothing of that one is kept. */
        void start(Subject subject, int port) {
            kind = subject.kind;
            innerAddress = subject.nearAddress;
            innerPort = subject.nearPort;
            outerAddress = subject.farAddress;
            outerPort = subject.farPort;
            ownPort = port;
            age = 0;
            synCameBack = false;
            finWentOut = false;
            finCameIn = false;
        }

        boolean hasInner(Subject subject) {
            return kind == subject.kind && innerAddress == subject.nearAddress
                    && innerPort == subject.nearPort;
        }

        boolean hasOuter(Subject subject) {
            return outerAddress == subject.farAddress && outerPort == subject.farPort;
        }

        boolean hasOwn(int someKind, int port) {
            return kind == someKind && ownPort == port;
        }

        void noteFlags(int flags, boolean out) {
            if (!out && (flags & (SYN | ACK)) == (SYN | ACK)) {
                synCameBack = true;
            }
            if ((flags & FIN) != 0) {
                if (out) {
                    finWentOut = true;
                } else {
                    finCameIn = true;
                }
            }
        }

        boolean isOver() {
            return age > life();
        }

        private int life() {
            if (kind == ICMP) {
                return 6;
            }
            if (kind == UDP) {
                return 30;
            }
            return synCameBack && !(finWentOut && finCameIn) ? 100 : 12;
        }

        int detail(int which) {
            switch (which) {
                case 0:
                    return kind;
                case 1:
                    return innerAddress;
                case 2:
                    return innerPort;
                case 3:
                    return outerAddress;
                case 4:
                    return outerPort;
                case 5:
                    return ownPort;
                case 6:
                    return age;
                default:
                    return (synCameBack ? 1 : 0) + (finWentOut ? 2 : 0) + (finCameIn ? 4 : 0);
            }
        }
    }

    /** The flows in the order in which they began; rows behind them wait to be used again. */
    private static final class FlowTable {
        private static final int MOST_FLOWS = 12;
        private static final int FIRST_PORT = 40000;
        private static final int LAST_PORT = 40005;

        final Flow[] rows = new Flow[MOST_FLOWS];
        int count;

        FlowTable() {
            for (int i = 0; i < MOST_FLOWS; i++) {
                rows[i] = new Flow();
            }
        }

        Flow findByInner(Subject subject) {
            for (int i = 0; i < count; i++) {
                Flow flow = rows[i];
                if (flow.hasInner(subject) && flow.hasOuter(subject)) {
                    return flow;
                }
            }
            return null;
        }

        Flow findByOwn(Subject subject) {
            for (int i = 0; i < count; i++) {
                Flow flow = rows[i];
                if (flow.hasOwn(subject.kind, subject.nearPort) && flow.hasOuter(subject)) {
                    return flow;
                }
            }
            return null;
        }

        /** The new flow, or null if there is no room or no port for it. */
        Flow begin(Subject subject) {
            if (count >= MOST_FLOWS) {
                return null;
            }
            int ownPort = binding(subject);
            if (ownPort == NONE) {
                ownPort = leastFreePort(subject.kind);
            }
            if (ownPort == NONE) {
                return null;
            }
            Flow flow = rows[count];
            flow.start(subject, ownPort);
            count++;
            return flow;
        }

        private int binding(Subject subject) {
            for (int i = 0; i < count; i++) {
                if (rows[i].hasInner(subject)) {
                    return rows[i].ownPort;
                }
            }
            return NONE;
        }

        private int leastFreePort(int kind) {
            for (int port = FIRST_PORT; port <= LAST_PORT; port++) {
                if (!isTaken(kind, port)) {
                    return port;
                }
            }
            return NONE;
        }

        private boolean isTaken(int kind, int port) {
            for (int i = 0; i < count; i++) {
                if (rows[i].hasOwn(kind, port)) {
                    return true;
                }
            }
            return false;
        }

        /** Each binding of a kind has its own port, so these are as many as the bindings. */
        int countOwnPorts(int kind) {
            int taken = 0;
            for (int port = FIRST_PORT; port <= LAST_PORT; port++) {
                if (isTaken(kind, port)) {
                    taken++;
                }
            }
            return taken;
        }

        /** Makes all flows n ticks older and answers how many ended by that. */
        int grow(int n) {
            int before = count;
            for (int i = before - 1; i >= 0; i--) {
                rows[i].age += n;
                if (rows[i].isOver()) {
                    endAt(i);
                }
            }
            return before - count;
        }

        void end(Flow flow) {
            for (int i = 0; i < count; i++) {
                if (rows[i] == flow) {
                    endAt(i);
                    return;
                }
            }
        }

        private void endAt(int index) {
            Flow ended = rows[index];
            for (int i = index + 1; i < count; i++) {
                rows[i - 1] = rows[i];
            }
            count--;
            rows[count] = ended;
        }
    }

    private static final class Rule {
        static final int ANY_KIND = 0;

        boolean isThere;
        private int kind;
        private int network;
        private int bits;
        boolean permits;

        void become(int newKind, int newNetwork, int newBits, boolean newPermits) {
            isThere = true;
            kind = newKind;
            network = newNetwork;
            bits = newBits;
            permits = newPermits;
        }

        boolean speaksOf(int someKind, int address) {
            return isThere && (kind == ANY_KIND || kind == someKind) && holds(address);
        }

        private boolean holds(int address) {
            // An int shifted by 32 stays as it is, so no bits at all need a case of their own.
            return bits == 0 || (address ^ network) >>> (32 - bits) == 0;
        }
    }

    private static final class RuleList {
        private static final int MOST_RULES = 4;

        final Rule[] rows = new Rule[MOST_RULES];

        RuleList() {
            for (int i = 0; i < MOST_RULES; i++) {
                rows[i] = new Rule();
            }
        }

        static boolean isNumber(int k) {
            return k >= 0 && k < MOST_RULES;
        }

        int count() {
            int there = 0;
            for (int i = 0; i < MOST_RULES; i++) {
                if (rows[i].isThere) {
                    there++;
                }
            }
            return there;
        }

        boolean permit(int kind, int outerAddress) {
            for (int i = 0; i < MOST_RULES; i++) {
                if (rows[i].speaksOf(kind, outerAddress)) {
                    return rows[i].permits;
                }
            }
            return true;
        }
    }
}
