import java.util.ArrayList;

/** A network of nodes. */
public final class NetLoom {
    private static final int NONE = -1;

    private static final int ADDRESS_BITS = 6;
    private static final int ADDRESSES = 64;
    private static final int MAX_NODES = 6;
    private static final int MAX_LINKS = 8;
    private static final int MAX_STREAMS = 4;
    private static final int MAX_CAPTURES = 3;
    private static final int MAX_ROUTES = 10;
    private static final int MAX_FILTERS = 4;
    private static final int MAX_LETTERS = 8;
    private static final int MAX_TICKS = 60;
    private static final int FULL_AGE = 6;

    private static final int PLAIN = 0;
    private static final int DATA = 1;
    private static final int ACK = 2;
    private static final int NOTE = 3;

    private static final int NO_ROUTE = 0;
    private static final int ROW_FULL = 1;
    private static final int LOST_AS_TOLD = 2;
    private static final int LINK_DOWN = 3;
    private static final int AGE_OVER = 4;
    private static final int NEVER_WHOLE = 5;
    private static final int DROPPED = 6;
    private static final int LOSSES = 7;

    private final Net net;
    /** A second network, used again for each question of what would be. */
    private final Net trial;

    public NetLoom() {
        net = new Net();
        trial = new Net();
    }

    // ---- what is told

    public int node(int address) throws IllegalArgumentException, IllegalStateException {
        needAddress(address);
        if (net.numberOf(address) != NONE) {
            throw new IllegalArgumentException("another node has this address");
        }
        needRoom(net.nodeCount, MAX_NODES);
        return net.addNode(address);
    }

    public int link(int one, int other, int size, int delay)
            throws IndexOutOfBoundsException, IllegalArgumentException, IllegalStateException {
        needNode(one);
        needNode(other);
        if (one == other) {
            throw new IllegalArgumentException("both ends are the same");
        }
        needRange(size, 2, MAX_LETTERS);
        needRange(delay, 1, 3);
        needRoom(net.linkCount, MAX_LINKS);
        return net.addLink(one, other, size, delay);
    }

    public int up(int link, boolean is) throws IndexOutOfBoundsException {
        needLink(link);
        return net.setUp(link, is);
    }

    public int mark(int link, boolean isBack, int many, boolean isDoubled)
            throws IndexOutOfBoundsException, IllegalArgumentException {
        needLink(link);
        needRange(many, 1, Line.MAX_MARKS);
        Line line = net.links[link].line(isBack);
        line.setFate(many, isDoubled ? Line.DOUBLED : Line.LOST);
        return line.left;
    }

    public int route(int node, int value, int bits, int link, int cost)
            throws IndexOutOfBoundsException, IllegalArgumentException, IllegalStateException {
        needNode(node);
        needLink(link);
        if (!net.links[link].hasEnd(node)) {
            throw new IndexOutOfBoundsException("the node is no end of this link");
        }
        needPrefix(value, bits);
        needRange(cost, 1, 9);
        needRoom(net.nodes[node].routeCount, MAX_ROUTES);
        return net.nodes[node].addRoute(value, bits, link, cost, false);
    }

    public boolean unroute(int node, int k) throws IndexOutOfBoundsException {
        needRoute(node, k);
        boolean wasLearned = net.nodes[node].routes[k].isLearned;
        net.nodes[node].removeRoute(k);
        return wasLearned;
    }

    public int talk() {
        return net.talkAll();
    }

    public int filter(int node, int source, int sourceBits, int target, int targetBits, int kind,
            boolean isKnown, boolean isLet)
            throws IndexOutOfBoundsException, IllegalArgumentException, IllegalStateException {
        needNode(node);
        needPrefix(source, sourceBits);
        needPrefix(target, targetBits);
        needRange(kind, NONE, NOTE);
        Node at = net.nodes[node];
        needRoom(at.filterCount, MAX_FILTERS);
        at.filters[at.filterCount].set(source, sourceBits, target, targetBits, kind, isKnown, isLet);
        at.filterCount++;
        return at.filterCount;
    }

    public int unfilter(int node) throws IndexOutOfBoundsException {
        needNode(node);
        int were = net.nodes[node].filterCount;
        net.nodes[node].filterCount = 0;
        return were;
    }

    public int translator(int node, int value, int bits)
            throws IndexOutOfBoundsException, IllegalArgumentException {
        needNode(node);
        needAddress(value);
        needRange(bits, NONE, ADDRESS_BITS);
        net.nodes[node].insideValue = value;
        net.nodes[node].insideBits = bits;
        return net.nodes[node].memoCount;
    }

    public int capture(int node, int source, int sourceBits, int target, int targetBits, int kind)
            throws IndexOutOfBoundsException, IllegalArgumentException, IllegalStateException {
        needNode(node);
        needPrefix(source, sourceBits);
        needPrefix(target, targetBits);
        needRange(kind, NONE, NOTE);
        needRoom(net.captureCount, MAX_CAPTURES);
        Capture capture = net.captures[net.captureCount];
        capture.node = node;
        capture.rule.set(source, sourceBits, target, targetBits, kind, false, true);
        net.captureCount++;
        return net.captureCount - 1;
    }

    // ---- what is sent

    public int plain(int node, int target, int mark, int size)
            throws IndexOutOfBoundsException, IllegalArgumentException {
        needNode(node);
        needAddress(target);
        needRange(mark, 0, 99);
        needRange(size, 0, MAX_LETTERS);
        return net.sendPlain(net.nodes[node], target, mark, size);
    }

    public int stream(int node, int target, int window)
            throws IndexOutOfBoundsException, IllegalArgumentException, IllegalStateException {
        needNode(node);
        int other = net.numberOf(target);
        if (other == NONE || other == node) {
            throw new IllegalArgumentException("no other node has this address");
        }
        needRange(window, Stream.LEAST_WINDOW, Stream.MOST_WINDOW);
        needRoom(net.streamCount, MAX_STREAMS);
        net.streams[net.streamCount].start(node, target, window);
        net.streamCount++;
        return net.streamCount - 1;
    }

    public int write(int stream, int letter)
            throws IndexOutOfBoundsException, IllegalArgumentException, IllegalStateException {
        needStream(stream);
        needRange(letter, 0, 9);
        needRoom(net.streams[stream].written, Stream.MAX_WRITTEN);
        needOpen(net.streams[stream]);
        return net.streams[stream].append(letter);
    }

    public int end(int stream) throws IndexOutOfBoundsException, IllegalStateException {
        needStream(stream);
        needOpen(net.streams[stream]);
        net.streams[stream].isEnded = true;
        return net.streams[stream].written - net.streams[stream].sure;
    }

    public int run(int ticks) throws IllegalArgumentException {
        needRange(ticks, 1, MAX_TICKS);
        return net.doTicks(ticks);
    }

    // ---- what one asks

    public int ofNode(int node, int what) throws IndexOutOfBoundsException, IllegalArgumentException {
        needNode(node);
        needRange(what, 0, 10);
        return net.nodes[node].ask(what);
    }

    public int routeTo(int node, int address) throws IndexOutOfBoundsException, IllegalArgumentException {
        needNode(node);
        needAddress(address);
        return net.bestRoute(net.nodes[node], address);
    }

    public int ofRoute(int node, int k, int what)
            throws IndexOutOfBoundsException, IllegalArgumentException {
        needRoute(node, k);
        needRange(what, 0, 4);
        return net.nodes[node].routes[k].ask(what);
    }

    public int ofLink(int link, boolean isBack, int what)
            throws IndexOutOfBoundsException, IllegalArgumentException {
        needLink(link);
        needRange(what, 0, 6);
        if (what == 6) {
            return net.links[link].isUp ? 1 : 0;
        }
        return net.links[link].line(isBack).ask(what);
    }

    public int ofStream(int stream, int what) throws IndexOutOfBoundsException, IllegalArgumentException {
        needStream(stream);
        needRange(what, 0, 9);
        return net.streams[stream].ask(what);
    }

    public int letter(int stream, int k) throws IndexOutOfBoundsException {
        needStream(stream);
        if (k < 0 || k >= net.streams[stream].gotCount()) {
            throw new IndexOutOfBoundsException("so many letters are not got");
        }
        return net.streams[stream].letters[k];
    }

    public int lost(int loss) throws IllegalArgumentException {
        needRange(loss, 0, LOSSES - 1);
        return net.losses[loss];
    }

    public int captured(int capture) throws IndexOutOfBoundsException {
        needIndex(capture, net.captureCount);
        return net.captures[capture].count;
    }

    public int many(int what) throws IllegalArgumentException {
        needRange(what, 0, 9);
        return net.ask(what);
    }

    public double meanTime() {
        return net.plainGot == 0 ? 0.0 : (double) net.plainTicks / (double) net.plainGot;
    }

    // ---- what would be (nothing is changed)

    public int trace(int node, int address, int k) throws IndexOutOfBoundsException, IllegalArgumentException {
        needNode(node);
        needAddress(address);
        if (k < 0) {
            throw new IllegalArgumentException("k is below 0");
        }
        return net.nodeAfter(node, address, k);
    }

    public int sureIn(int stream, int ticks) throws IndexOutOfBoundsException, IllegalArgumentException {
        needStream(stream);
        needRange(ticks, 1, MAX_TICKS);
        trial.become(net);
        trial.doTicks(ticks);
        return trial.streams[stream].sure;
    }

    public int lostWithout(int link, int ticks) throws IndexOutOfBoundsException, IllegalArgumentException {
        needLink(link);
        needRange(ticks, 1, MAX_TICKS);
        trial.become(net);
        int lostAtOnce = trial.setUp(link, false);
        return lostAtOnce + trial.doTicks(ticks);
    }

    public long digest() {
        long d = 9612;
        for (int what = 0; what <= 9; what++) {
            d = d * 31 + many(what);
        }
        for (int loss = 0; loss < LOSSES; loss++) {
            d = d * 31 + lost(loss);
        }
        for (int node = 0; node < net.nodeCount; node++) {
            d = digestNode(d, node);
        }
        for (int link = 0; link < net.linkCount; link++) {
            for (int what = 0; what <= 6; what++) {
                d = d * 31 + ofLink(link, false, what);
            }
            for (int what = 0; what <= 6; what++) {
                d = d * 31 + ofLink(link, true, what);
            }
            d = d * 31 + lostWithout(link, 5);
        }
        for (int stream = 0; stream < net.streamCount; stream++) {
            for (int what = 0; what <= 9; what++) {
                d = d * 31 + ofStream(stream, what);
            }
            int got = net.streams[stream].gotCount();
            for (int k = 0; k < got; k++) {
                d = d * 31 + letter(stream, k);
            }
            d = d * 31 + sureIn(stream, 10);
        }
        for (int capture = 0; capture < net.captureCount; capture++) {
            d = d * 31 + captured(capture);
        }
        return d;
    }

    private long digestNode(long before, int node) {
        long d = before;
        for (int what = 0; what <= 10; what++) {
            d = d * 31 + ofNode(node, what);
        }
        for (int k = 0; k < net.nodes[node].routeCount; k++) {
            for (int what = 0; what <= 4; what++) {
                d = d * 31 + ofRoute(node, k, what);
            }
        }
        for (int to = 0; to < net.nodeCount; to++) {
            int address = net.nodes[to].address;
            d = d * 31 + routeTo(node, address);
            for (int k = 0; k <= 3; k++) {
                d = d * 31 + trace(node, address, k);
            }
        }
        return d;
    }

    // ---- what the arguments must be

    private static void needIndex(int k, int count) {
        if (k < 0 || k >= count) {
            throw new IndexOutOfBoundsException("there is no such one");
        }
    }

    private static void needRange(int value, int least, int most) {
        if (value < least || value > most) {
            throw new IllegalArgumentException("an argument is out of its range");
        }
    }

    private static void needRoom(int count, int most) {
        if (count >= most) {
            throw new IllegalStateException("there are as many as there may be");
        }
    }

    private static void needOpen(Stream stream) {
        if (stream.isEnded || stream.isBroken) {
            throw new IllegalStateException("the stream was ended, or is broken");
        }
    }

    private static void needAddress(int address) {
        needRange(address, 0, ADDRESSES - 1);
    }

    private static void needPrefix(int value, int bits) {
        needAddress(value);
        needRange(bits, 0, ADDRESS_BITS);
    }

    private void needNode(int node) {
        needIndex(node, net.nodeCount);
    }

    private void needLink(int link) {
        needIndex(link, net.linkCount);
    }

    private void needStream(int stream) {
        needIndex(stream, net.streamCount);
    }

    private void needRoute(int node, int k) {
        needNode(node);
        needIndex(k, net.nodes[node].routeCount);
    }

    private static boolean isIn(int address, int value, int bits) {
        return (address ^ value) >> (ADDRESS_BITS - bits) == 0;
    }

    /**
     * A PACKET, or a FRAGMENT of one. It tells only how many LETTERS it has: those of DATA stand in
     * their STREAM, from NUMBER on, and never change there; those of others are never asked for.
     */
    private static final class Packet {
        int source;
        int target;
        int kind;
        int mark;
        int number;
        int age;
        int id;
        /** NOW, as it was made. */
        int made;
        /** Where in the whole its LETTERS begin. */
        int place;
        int count;
        /** How many LETTERS the whole has: a FRAGMENT has fewer. */
        int whole;
        /** The TICK in which it comes, while it is on the way. */
        int comes;

        void become(Packet other) {
            source = other.source;
            target = other.target;
            kind = other.kind;
            mark = other.mark;
            number = other.number;
            age = other.age;
            id = other.id;
            made = other.made;
            place = other.place;
            count = other.count;
            whole = other.whole;
            comes = other.comes;
        }

        boolean isFragment() {
            return count < whole;
        }
    }

    /** One direction of a LINK: its ROW, what is on the way, and what is told of those that will leave. */
    private static final class Line {
        static final int MAX_ROW = 5;
        /** One leaves in a TICK, perhaps doubled, and is on the way for 3 TICKS at most. */
        static final int MAX_WAY = 6;
        static final int MAX_MARKS = 20;
        static final int AS_IT_IS = 0;
        static final int LOST = 1;
        static final int DOUBLED = 2;

        int from;
        int to;
        final Packet[] row = new Packet[MAX_ROW];
        int rowCount;
        final Packet[] way = new Packet[MAX_WAY];
        int wayCount;
        int left;
        /** What is told of the next ones, by their numbers modulo MAX_MARKS: none is told of further ahead. */
        final int[] fates = new int[MAX_MARKS];

        Line() {
            for (int i = 0; i < MAX_ROW; i++) {
                row[i] = new Packet();
            }
            for (int i = 0; i < MAX_WAY; i++) {
                way[i] = new Packet();
            }
        }

        void become(Line other) {
            from = other.from;
            to = other.to;
            rowCount = other.rowCount;
            for (int i = 0; i < rowCount; i++) {
                row[i].become(other.row[i]);
            }
            wayCount = other.wayCount;
            for (int i = 0; i < wayCount; i++) {
                way[i].become(other.way[i]);
            }
            left = other.left;
            System.arraycopy(other.fates, 0, fates, 0, MAX_MARKS);
        }

        void setFate(int ahead, int fate) {
            fates[(left + ahead) % MAX_MARKS] = fate;
        }

        /** Puts LETTERS of a packet into the ROW; returns whether there was room. */
        boolean put(Packet packet, int place, int count) {
            if (rowCount >= MAX_ROW) {
                return false;
            }
            Packet last = row[rowCount];
            last.become(packet);
            last.place = place;
            last.count = count;
            rowCount++;
            return true;
        }

        /** Lets the first one of the ROW leave; returns whether it was lost as told. */
        boolean leaveFirst(int comes) {
            if (rowCount == 0) {
                return false;
            }
            left++;
            int fate = fates[left % MAX_MARKS];
            fates[left % MAX_MARKS] = AS_IT_IS;
            int copies = fate == LOST ? 0 : fate == DOUBLED ? 2 : 1;
            for (int i = 0; i < copies && wayCount < MAX_WAY; i++) {
                way[wayCount].become(row[0]);
                way[wayCount].comes = comes;
                wayCount++;
            }
            firstToEnd(row, rowCount);
            rowCount--;
            return fate == LOST;
        }

        /** Takes the next one that comes by now off the way into the hand; returns whether there was one. */
        boolean takeNext(int now, Packet hand) {
            if (wayCount == 0 || way[0].comes > now) {
                return false;
            }
            hand.become(way[0]);
            firstToEnd(way, wayCount);
            wayCount--;
            return true;
        }

        private static void firstToEnd(Packet[] queue, int count) {
            Packet first = queue[0];
            for (int i = 1; i < count; i++) {
                queue[i - 1] = queue[i];
            }
            queue[count - 1] = first;
        }

        int ask(int what) {
            switch (what) {
                case 0: return from;
                case 1: return rowCount;
                case 2: return wayCount;
                case 3: return left;
                case 4: return rowCount == 0 ? NONE : row[0].id;
                default: return lettersInRow();
            }
        }

        private int lettersInRow() {
            int sum = 0;
            for (int i = 0; i < rowCount; i++) {
                sum += row[i].count;
            }
            return sum;
        }
    }

    private static final class Link {
        int size;
        int delay;
        boolean isUp;
        final Line there = new Line();
        final Line back = new Line();

        void start(int one, int other, int lettersAtMost, int ticks) {
            there.from = one;
            there.to = other;
            back.from = other;
            back.to = one;
            size = lettersAtMost;
            delay = ticks;
            isUp = true;
        }

        void become(Link other) {
            size = other.size;
            delay = other.delay;
            isUp = other.isUp;
            there.become(other.there);
            back.become(other.back);
        }

        Line line(boolean isBack) {
            return isBack ? back : there;
        }

        Line lineFrom(int node) {
            return there.from == node ? there : back;
        }

        boolean hasEnd(int node) {
            return there.from == node || there.to == node;
        }
    }

    private static final class Route {
        int value;
        int bits;
        int link;
        int cost;
        boolean isLearned;
        /** Whether it was told in the TALK that goes on. */
        boolean isHeard;

        void become(Route other) {
            value = other.value;
            bits = other.bits;
            link = other.link;
            cost = other.cost;
            isLearned = other.isLearned;
            isHeard = other.isHeard;
        }

        boolean isBetterThan(Route other) {
            if (bits != other.bits) {
                return bits > other.bits;
            }
            if (cost != other.cost) {
                return cost < other.cost;
            }
            if (isLearned != other.isLearned) {
                return other.isLearned;
            }
            return link < other.link;
        }

        int ask(int what) {
            switch (what) {
                case 0: return value;
                case 1: return bits;
                case 2: return link;
                case 3: return cost;
                default: return isLearned ? 1 : 0;
            }
        }
    }

    private static final class Rule {
        int source;
        int sourceBits;
        int target;
        int targetBits;
        int kind;
        boolean asksKnown;
        boolean isLet;

        void set(int source, int sourceBits, int target, int targetBits, int kind,
                boolean asksKnown, boolean isLet) {
            this.source = source;
            this.sourceBits = sourceBits;
            this.target = target;
            this.targetBits = targetBits;
            this.kind = kind;
            this.asksKnown = asksKnown;
            this.isLet = isLet;
        }

        void become(Rule other) {
            set(other.source, other.sourceBits, other.target, other.targetBits, other.kind,
                    other.asksKnown, other.isLet);
        }

        boolean fits(Packet packet, boolean isKnown) {
            return isIn(packet.source, source, sourceBits)
                    && isIn(packet.target, target, targetBits)
                    && (kind == NONE || kind == packet.kind)
                    && (!asksKnown || isKnown);
        }
    }

    private static final class Capture {
        int node;
        int count;
        final Rule rule = new Rule();

        void become(Capture other) {
            node = other.node;
            count = other.count;
            rule.become(other.rule);
        }
    }

    /** The FRAGMENTS of one PACKET that a NODE keeps. */
    private static final class Whole {
        int source;
        int id;
        int first;
        int fragments;
        /** A bit for each LETTER that is there. */
        int there;

        void become(Whole other) {
            source = other.source;
            id = other.id;
            first = other.first;
            fragments = other.fragments;
            there = other.there;
        }
    }

    /** A note of translation (a NOTE is a packet): to whom an answer goes. */
    private static final class Memo {
        int mark;
        int kind;
        int from;
        int inside;
        int used;

        void become(Memo other) {
            mark = other.mark;
            kind = other.kind;
            from = other.from;
            inside = other.inside;
            used = other.used;
        }
    }

    private static final class Node {
        static final int WHOLE_TICKS = 12;
        static final int MEMO_TICKS = 20;
        static final int COST_TOO_HIGH = 9;

        final int number;
        int address;
        final Route[] routes = new Route[MAX_ROUTES];
        int routeCount;
        final Rule[] filters = new Rule[MAX_FILTERS];
        int filterCount;
        int insideValue;
        int insideBits = NONE;
        int plainGot;
        int plainMark = NONE;
        int noteGot;
        int noteMark = NONE;
        int noteNumber = NONE;
        /** For each SOURCE a bit for each TARGET: which packets came by. */
        final long[] cameBy = new long[ADDRESSES];
        /** Those behind the counted ones are spare, to be used again. */
        final ArrayList<Memo> memos = new ArrayList<Memo>();
        int memoCount;
        final ArrayList<Whole> wholes = new ArrayList<Whole>();
        int wholeCount;

        Node(int number) {
            this.number = number;
            for (int i = 0; i < MAX_ROUTES; i++) {
                routes[i] = new Route();
            }
            for (int i = 0; i < MAX_FILTERS; i++) {
                filters[i] = new Rule();
            }
        }

        void become(Node other) {
            address = other.address;
            routeCount = other.routeCount;
            for (int i = 0; i < routeCount; i++) {
                routes[i].become(other.routes[i]);
            }
            filterCount = other.filterCount;
            for (int i = 0; i < filterCount; i++) {
                filters[i].become(other.filters[i]);
            }
            insideValue = other.insideValue;
            insideBits = other.insideBits;
            plainGot = other.plainGot;
            plainMark = other.plainMark;
            noteGot = other.noteGot;
            noteMark = other.noteMark;
            noteNumber = other.noteNumber;
            System.arraycopy(other.cameBy, 0, cameBy, 0, ADDRESSES);
            memoCount = 0;
            for (int i = 0; i < other.memoCount; i++) {
                nextMemo().become(other.memos.get(i));
            }
            wholeCount = 0;
            for (int i = 0; i < other.wholeCount; i++) {
                nextWhole().become(other.wholes.get(i));
            }
        }

        int ask(int what) {
            switch (what) {
                case 0: return address;
                case 1: return routeCount;
                case 2: return learnedCount();
                case 3: return plainGot;
                case 4: return plainMark;
                case 5: return noteGot;
                case 6: return noteMark;
                case 7: return noteNumber;
                case 8: return wholeCount;
                case 9: return memoCount;
                default: return filterCount;
            }
        }

        int learnedCount() {
            int learned = 0;
            for (int k = 0; k < routeCount; k++) {
                if (routes[k].isLearned) {
                    learned++;
                }
            }
            return learned;
        }

        int fragmentCount() {
            int sum = 0;
            for (int i = 0; i < wholeCount; i++) {
                sum += wholes.get(i).fragments;
            }
            return sum;
        }

        /** Adds a ROUTE behind the others; returns its number, NONE if there is no room. */
        int addRoute(int value, int bits, int link, int cost, boolean isLearned) {
            if (routeCount >= MAX_ROUTES) {
                return NONE;
            }
            Route last = routes[routeCount];
            last.value = value;
            last.bits = bits;
            last.link = link;
            last.cost = cost;
            last.isLearned = isLearned;
            routeCount++;
            return routeCount - 1;
        }

        void removeRoute(int k) {
            Route gone = routes[k];
            for (int i = k + 1; i < routeCount; i++) {
                routes[i - 1] = routes[i];
            }
            routes[routeCount - 1] = gone;
            routeCount--;
        }

        private int learnedFor(int target, int link) {
            for (int k = 0; k < routeCount; k++) {
                if (routes[k].isLearned && routes[k].value == target && routes[k].link == link) {
                    return k;
                }
            }
            return NONE;
        }

        /** Is told, over a LINK, of a way to an ADDRESS. */
        void learn(int target, int link, int cost) {
            if (target == address) {
                return;
            }
            int k = learnedFor(target, link);
            if (cost >= COST_TOO_HIGH) {
                if (k != NONE) {
                    removeRoute(k);
                }
                return;
            }
            if (k == NONE) {
                k = addRoute(target, ADDRESS_BITS, link, cost, true);
            }
            if (k != NONE) {
                routes[k].cost = cost;
                routes[k].isHeard = true;
            }
        }

        void hearNothing() {
            for (int k = 0; k < routeCount; k++) {
                routes[k].isHeard = false;
            }
        }

        void forgetUnheard() {
            for (int k = routeCount - 1; k >= 0; k--) {
                if (routes[k].isLearned && !routes[k].isHeard) {
                    removeRoute(k);
                }
            }
        }

        private boolean isKnown(Packet packet) {
            return (cameBy[packet.target] >> packet.source & 1L) != 0;
        }

        /** Whether the FILTERS let a PACKET that comes; what they let has come by, as they saw it. */
        boolean filterLets(Packet packet) {
            boolean isKnown = isKnown(packet);
            boolean isLet = true;
            boolean isSaid = false;
            for (int i = 0; i < filterCount && !isSaid; i++) {
                if (filters[i].fits(packet, isKnown)) {
                    isLet = filters[i].isLet;
                    isSaid = true;
                }
            }
            if (isLet) {
                cameBy[packet.source] |= 1L << packet.target;
            }
            return isLet;
        }

        private Memo memoFor(int mark, int kind, int from) {
            for (int i = 0; i < memoCount; i++) {
                Memo memo = memos.get(i);
                if (memo.mark == mark && memo.kind == kind && memo.from == from) {
                    return memo;
                }
            }
            return null;
        }

        private Memo nextMemo() {
            if (memoCount == memos.size()) {
                memos.add(new Memo());
            }
            memoCount++;
            return memos.get(memoCount - 1);
        }

        void translate(Packet packet, int now) {
            if (insideBits == NONE || !isIn(packet.source, insideValue, insideBits)
                    || isIn(packet.target, insideValue, insideBits)) {
                return;
            }
            int answer = packet.kind == DATA ? ACK : packet.kind == ACK ? DATA : packet.kind;
            Memo memo = memoFor(packet.mark, answer, packet.target);
            if (memo == null) {
                memo = nextMemo();
            }
            memo.mark = packet.mark;
            memo.kind = answer;
            memo.from = packet.target;
            memo.inside = packet.source;
            memo.used = now;
            packet.source = address;
        }

        void translateBack(Packet packet, int now) {
            if (packet.target != address) {
                return;
            }
            Memo memo = memoFor(packet.mark, packet.kind, packet.source);
            if (memo != null) {
                memo.used = now;
                packet.target = memo.inside;
            }
        }

        private int wholeOf(Packet packet) {
            for (int i = 0; i < wholeCount; i++) {
                if (wholes.get(i).source == packet.source && wholes.get(i).id == packet.id) {
                    return i;
                }
            }
            return NONE;
        }

        private Whole nextWhole() {
            if (wholeCount == wholes.size()) {
                wholes.add(new Whole());
            }
            wholeCount++;
            return wholes.get(wholeCount - 1);
        }

        private void removeWhole(int i) {
            wholes.add(wholes.remove(i));
            wholeCount--;
        }

        /** Keeps a FRAGMENT, or lets all of them go, if the whole is there with it; returns whether it is. */
        boolean gather(Packet fragment, int now) {
            int i = wholeOf(fragment);
            if (i == NONE) {
                i = wholeCount;
                Whole fresh = nextWhole();
                fresh.source = fragment.source;
                fresh.id = fragment.id;
                fresh.first = now;
                fresh.fragments = 0;
                fresh.there = 0;
            }
            Whole whole = wholes.get(i);
            whole.fragments++;
            whole.there |= ((1 << fragment.count) - 1) << fragment.place;
            boolean isWhole = whole.there == (1 << fragment.whole) - 1;
            if (isWhole) {
                removeWhole(i);
            }
            return isWhole;
        }

        /** Lets go of what is too old; returns how many wholes are lost by that. */
        int dropOld(int now) {
            for (int i = memoCount - 1; i >= 0; i--) {
                if (now - memos.get(i).used >= MEMO_TICKS) {
                    memos.add(memos.remove(i));
                    memoCount--;
                }
            }
            int before = wholeCount;
            for (int i = wholeCount - 1; i >= 0; i--) {
                if (now - wholes.get(i).first >= WHOLE_TICKS) {
                    removeWhole(i);
                }
            }
            return before - wholeCount;
        }
    }

    private static final class Stream {
        static final int MAX_WRITTEN = 30;
        static final int LEAST_WINDOW = 4;
        static final int MOST_WINDOW = 12;
        static final int MOST_IN_DATA = 4;
        static final int LAST_TRY = 2;
        /** Each of the 30 LETTERS may go alone, and 2 DATA once more ahead of the first that is SURE and behind each. */
        static final int MAX_DATA = MAX_WRITTEN + LAST_TRY * (MAX_WRITTEN + 1);

        int node;
        int target;
        int limit;
        int window;
        final int[] letters = new int[MAX_WRITTEN];
        int written;
        int sent;
        int sure;
        /** A bit for each LETTER that is at the TARGET. */
        int kept;
        int alarm = NONE;
        int tries;
        int told;
        boolean isEnded;
        boolean isBroken;
        final int[] dataIds = new int[MAX_DATA];
        /** The number of the LETTER behind the last one of each DATA. */
        final int[] dataEnds = new int[MAX_DATA];
        int dataCount;

        void start(int fromNode, int toAddress, int toldWindow) {
            node = fromNode;
            target = toAddress;
            limit = toldWindow;
            window = toldWindow;
        }

        void become(Stream other) {
            node = other.node;
            target = other.target;
            limit = other.limit;
            window = other.window;
            System.arraycopy(other.letters, 0, letters, 0, MAX_WRITTEN);
            written = other.written;
            sent = other.sent;
            sure = other.sure;
            kept = other.kept;
            alarm = other.alarm;
            tries = other.tries;
            told = other.told;
            isEnded = other.isEnded;
            isBroken = other.isBroken;
            System.arraycopy(other.dataIds, 0, dataIds, 0, MAX_DATA);
            System.arraycopy(other.dataEnds, 0, dataEnds, 0, MAX_DATA);
            dataCount = other.dataCount;
        }

        int append(int letter) {
            if (written < MAX_WRITTEN) {
                letters[written] = letter;
                written++;
            }
            return written;
        }

        boolean isOver() {
            return isEnded && sure == written;
        }

        /** Heeds the ALARM; returns how many LETTERS, from SURE on, go once more. */
        int repeated(int now) {
            if (alarm == NONE || alarm > now) {
                return 0;
            }
            if (tries >= LAST_TRY) {
                isBroken = true;
                alarm = NONE;
                return 0;
            }
            tries++;
            alarm = now + (tries == LAST_TRY ? 24 : 12);
            window = Math.max(LEAST_WINDOW, window / 2);
            return Math.min(MOST_IN_DATA, sent - sure);
        }

        /** How many LETTERS, from SENT on, the next DATA has; below 1 if none goes. */
        int fresh() {
            if (isBroken) {
                return 0;
            }
            int most = Math.min(MOST_IN_DATA, window - (sent - sure));
            return Math.min(most, written - sent);
        }

        void advance(int count, int now) {
            if (sent == sure) {
                alarm = now + 6;
                tries = 0;
            }
            sent += count;
        }

        void noteData(int id, int end) {
            if (dataCount < MAX_DATA) {
                dataIds[dataCount] = id;
                dataEnds[dataCount] = end;
                dataCount++;
            }
        }

        boolean isUnsureData(int id) {
            for (int i = 0; i < dataCount; i++) {
                if (dataIds[i] == id) {
                    return dataEnds[i] > sure;
                }
            }
            return false;
        }

        /** Keeps LETTERS of a DATA; returns how many are GOT then. */
        int keep(int first, int count) {
            if (!isBroken) {
                kept |= ((1 << count) - 1) << first;
            }
            return gotCount();
        }

        int gotCount() {
            for (int k = 0; k < MAX_WRITTEN; k++) {
                if ((kept >> k & 1) == 0) {
                    return k;
                }
            }
            return MAX_WRITTEN;
        }

        void acknowledge(int number, int now) {
            if (isBroken || number <= sure) {
                return;
            }
            sure = number;
            window = Math.min(limit, window + 1);
            tries = 0;
            alarm = sure < sent ? now + 6 : NONE;
        }

        int ask(int what) {
            switch (what) {
                case 0: return isBroken ? 3 : isOver() ? 2 : isEnded ? 1 : 0;
                case 1: return written;
                case 2: return sent;
                case 3: return sure;
                case 4: return window;
                case 5: return gotCount();
                case 6: return Integer.bitCount(kept) - gotCount();
                case 7: return alarm;
                case 8: return tries;
                default: return told;
            }
        }
    }

    /** The whole network: all that calls and TICKS change is in here, so that a copy tells what would be. */
    private static final class Net {
        /** A DATA that is GOT is answered by an ACK, that one, if it is lost, by a NOTE, and that by none. */
        static final int MAX_ANSWERS = 4;

        final Node[] nodes = new Node[MAX_NODES];
        int nodeCount;
        final Link[] links = new Link[MAX_LINKS];
        int linkCount;
        final Stream[] streams = new Stream[MAX_STREAMS];
        int streamCount;
        final Capture[] captures = new Capture[MAX_CAPTURES];
        int captureCount;
        final int[] losses = new int[LOSSES];
        int now;
        int madeCount;
        int plainGot;
        int plainTicks;
        /** The one PACKET that is at a NODE just now: all others wait in ROWS or are on the way. */
        final Packet hand = new Packet();
        /** What each NODE (a row of MAX_NODES) knew of each, as a TALK began: the COST, and over which LINK. */
        final int[] knownCosts = new int[MAX_NODES * MAX_NODES];
        final int[] knownLinks = new int[MAX_NODES * MAX_NODES];

        Net() {
            for (int i = 0; i < MAX_NODES; i++) {
                nodes[i] = new Node(i);
            }
            for (int i = 0; i < MAX_LINKS; i++) {
                links[i] = new Link();
            }
            for (int i = 0; i < MAX_STREAMS; i++) {
                streams[i] = new Stream();
            }
            for (int i = 0; i < MAX_CAPTURES; i++) {
                captures[i] = new Capture();
            }
        }

        void become(Net other) {
            nodeCount = other.nodeCount;
            for (int i = 0; i < nodeCount; i++) {
                nodes[i].become(other.nodes[i]);
            }
            linkCount = other.linkCount;
            for (int i = 0; i < linkCount; i++) {
                links[i].become(other.links[i]);
            }
            streamCount = other.streamCount;
            for (int i = 0; i < streamCount; i++) {
                streams[i].become(other.streams[i]);
            }
            captureCount = other.captureCount;
            for (int i = 0; i < captureCount; i++) {
                captures[i].become(other.captures[i]);
            }
            System.arraycopy(other.losses, 0, losses, 0, LOSSES);
            now = other.now;
            madeCount = other.madeCount;
            plainGot = other.plainGot;
            plainTicks = other.plainTicks;
        }

        int numberOf(int address) {
            for (int i = 0; i < nodeCount; i++) {
                if (nodes[i].address == address) {
                    return i;
                }
            }
            return NONE;
        }

        int addNode(int address) {
            nodes[nodeCount].address = address;
            nodeCount++;
            return nodeCount - 1;
        }

        int addLink(int one, int other, int size, int delay) {
            links[linkCount].start(one, other, size, delay);
            linkCount++;
            return linkCount - 1;
        }

        /** Returns how many PACKETS are lost by that. */
        int setUp(int link, boolean isUp) {
            links[link].isUp = isUp;
            if (isUp) {
                return 0;
            }
            Line there = links[link].there;
            Line back = links[link].back;
            int gone = there.wayCount + back.wayCount;
            there.wayCount = 0;
            back.wayCount = 0;
            losses[LINK_DOWN] += gone;
            return gone;
        }

        // ---- ROUTES

        /** The number of the ROUTE of a NODE to an ADDRESS, NONE if there is none. */
        int bestRoute(Node node, int address) {
            int best = NONE;
            for (int k = 0; k < node.routeCount; k++) {
                Route route = node.routes[k];
                if (links[route.link].isUp && isIn(address, route.value, route.bits)
                        && (best == NONE || route.isBetterThan(node.routes[best]))) {
                    best = k;
                }
            }
            return best;
        }

        int talkAll() {
            rememberKnown();
            for (int n = 0; n < nodeCount; n++) {
                nodes[n].hearNothing();
            }
            for (int n = 0; n < nodeCount; n++) {
                for (int l = 0; l < linkCount; l++) {
                    if (links[l].isUp && links[l].hasEnd(n)) {
                        tell(n, l, nodes[links[l].lineFrom(n).to]);
                    }
                }
            }
            int learned = 0;
            for (int n = 0; n < nodeCount; n++) {
                nodes[n].forgetUnheard();
                learned += nodes[n].learnedCount();
            }
            return learned;
        }

        private void rememberKnown() {
            for (int n = 0; n < nodeCount; n++) {
                for (int to = 0; to < nodeCount; to++) {
                    int k = bestRoute(nodes[n], nodes[to].address);
                    knownCosts[n * MAX_NODES + to] = k == NONE ? NONE : nodes[n].routes[k].cost;
                    knownLinks[n * MAX_NODES + to] = k == NONE ? NONE : nodes[n].routes[k].link;
                }
            }
        }

        private void tell(int teller, int link, Node hearer) {
            hearer.learn(nodes[teller].address, link, 1);
            for (int to = 0; to < nodeCount; to++) {
                int cost = knownCosts[teller * MAX_NODES + to];
                boolean wouldSendHere = knownLinks[teller * MAX_NODES + to] == link;
                if (to != teller && cost != NONE && !wouldSendHere) {
                    hearer.learn(nodes[to].address, link, cost + 1);
                }
            }
        }

        /** The k-th NODE to which a PACKET would come from a NODE on, NONE if it does not come so far. */
        int nodeAfter(int node, int address, int k) {
            if (k > FULL_AGE) {
                return NONE;
            }
            int at = node;
            for (int i = 0; i < k; i++) {
                int route = bestRoute(nodes[at], address);
                if (nodes[at].address == address || route == NONE) {
                    return NONE;
                }
                at = links[nodes[at].routes[route].link].lineFrom(at).to;
            }
            return at;
        }

        // ---- PACKETS

        /** Makes a PACKET at a NODE, in place of what the given one was. */
        private void make(Packet packet, Node node, int target, int kind, int mark, int number, int count) {
            packet.source = node.address;
            packet.target = target;
            packet.kind = kind;
            packet.mark = mark;
            packet.number = number;
            packet.age = FULL_AGE;
            packet.id = madeCount;
            packet.made = now;
            packet.place = 0;
            packet.count = count;
            packet.whole = count;
            madeCount++;
            node.cameBy[packet.source] |= 1L << packet.target;
        }

        int sendPlain(Node node, int target, int mark, int size) {
            make(hand, node, target, PLAIN, mark, 0, size);
            int id = hand.id;
            send(node, hand);
            return id;
        }

        /** ROUTES a PACKET at a NODE, and likewise what answers it there at once. */
        private void send(Node node, Packet packet) {
            boolean goesOn = true;
            for (int i = 0; goesOn && i < MAX_ANSWERS; i++) {
                if (packet.target != node.address) {
                    goesOn = pass(node, packet);
                } else if (packet.isFragment() && !node.gather(packet, now)) {
                    goesOn = false;
                } else {
                    goesOn = get(node, packet);
                }
            }
        }

        /** A whole PACKET is GOT at a NODE; returns whether it became what answers it. */
        private boolean get(Node node, Packet packet) {
            switch (packet.kind) {
                case PLAIN:
                    node.plainGot++;
                    node.plainMark = packet.mark;
                    plainGot++;
                    plainTicks += now - packet.made;
                    return false;
                case DATA: {
                    int got = streams[packet.mark].keep(packet.number, packet.whole);
                    make(packet, node, packet.source, ACK, packet.mark, got, 0);
                    return true;
                }
                case ACK:
                    if (streams[packet.mark].node == node.number) {
                        streams[packet.mark].acknowledge(packet.number, now);
                    }
                    return false;
                default:
                    gotNote(node, packet);
                    return false;
            }
        }

        private void gotNote(Node node, Packet note) {
            node.noteGot++;
            node.noteMark = note.mark;
            node.noteNumber = note.number;
            for (int i = 0; i < streamCount; i++) {
                if (streams[i].node == node.number && streams[i].isUnsureData(note.number)) {
                    streams[i].told++;
                }
            }
        }

        /** Puts a PACKET into the ROW by its ROUTE; returns whether it had none and became the NOTE of that. */
        private boolean pass(Node node, Packet packet) {
            int k = bestRoute(node, packet.target);
            if (k == NONE) {
                return lose(node, packet, NO_ROUTE);
            }
            Link link = links[node.routes[k].link];
            Line line = link.lineFrom(node.number);
            int at = 0;
            for (int i = 0; i == 0 || i < MAX_LETTERS && at < packet.count; i++) {
                int count = Math.min(link.size, packet.count - at);
                if (!line.put(packet, packet.place + at, count)) {
                    losses[ROW_FULL]++;
                }
                at += count;
            }
            return false;
        }

        /** Loses a PACKET at a NODE; returns whether it became the NOTE of that. */
        private boolean lose(Node node, Packet packet, int loss) {
            losses[loss]++;
            if (packet.kind == NOTE) {
                return false;
            }
            make(packet, node, packet.source, NOTE, loss, packet.id, 0);
            return true;
        }

        /** A PACKET comes over a LINK to a NODE; returns whether it, or what answers it, goes on from there. */
        private boolean arrive(Node node, Packet packet) {
            for (int i = 0; i < captureCount; i++) {
                if (captures[i].node == node.number && captures[i].rule.fits(packet, false)) {
                    captures[i].count++;
                }
            }
            if (!node.filterLets(packet)) {
                losses[DROPPED]++;
                return false;
            }
            node.translateBack(packet, now);
            if (packet.target == node.address) {
                return true;
            }
            packet.age--;
            if (packet.age <= 0) {
                return lose(node, packet, AGE_OVER);
            }
            node.translate(packet, now);
            return true;
        }

        // ---- TICKS

        /** Returns how many PACKETS are lost in them. */
        int doTicks(int ticks) {
            int before = lostSoFar();
            for (int i = 0; i < ticks; i++) {
                now++;
                letCome();
                dropOld();
                sendStreams();
                letLeave();
            }
            return lostSoFar() - before;
        }

        private int lostSoFar() {
            int sum = 0;
            for (int loss = 0; loss < LOSSES; loss++) {
                sum += losses[loss];
            }
            return sum;
        }

        private void letCome() {
            for (int i = 0; i < 2 * linkCount; i++) {
                Line line = links[i / 2].line(i % 2 == 1);
                Node node = nodes[line.to];
                for (int n = line.wayCount; n > 0 && line.takeNext(now, hand); n--) {
                    if (arrive(node, hand)) {
                        send(node, hand);
                    }
                }
            }
        }

        private void dropOld() {
            for (int i = 0; i < nodeCount; i++) {
                losses[NEVER_WHOLE] += nodes[i].dropOld(now);
            }
        }

        private void sendStreams() {
            for (int i = 0; i < streamCount; i++) {
                Stream stream = streams[i];
                Node node = nodes[stream.node];
                int again = stream.repeated(now);
                if (again > 0) {
                    makeData(i, stream.sure, again);
                    send(node, hand);
                }
                int count = stream.fresh();
                for (int n = 0; n < Stream.MAX_WRITTEN && count > 0; n++) {
                    makeData(i, stream.sent, count);
                    stream.advance(count, now);
                    send(node, hand);
                    count = stream.fresh();
                }
            }
        }

        private void makeData(int number, int first, int count) {
            Stream stream = streams[number];
            make(hand, nodes[stream.node], stream.target, DATA, number, first, count);
            stream.noteData(hand.id, first + count);
        }

        private void letLeave() {
            for (int i = 0; i < 2 * linkCount; i++) {
                Link link = links[i / 2];
                if (link.isUp && link.line(i % 2 == 1).leaveFirst(now + link.delay)) {
                    losses[LOST_AS_TOLD]++;
                }
            }
        }

        // ---- how many there are

        int ask(int what) {
            switch (what) {
                case 0: return nodeCount;
                case 1: return linkCount;
                case 2: return streamCount;
                case 3: return now;
                case 4: return madeCount;
                case 5: return inRows();
                case 6: return onTheWay();
                case 7: return fragmentsKept();
                case 8: return captureCount;
                default: return lettersGot();
            }
        }

        private int inRows() {
            int sum = 0;
            for (int i = 0; i < linkCount; i++) {
                sum += links[i].there.rowCount + links[i].back.rowCount;
            }
            return sum;
        }

        private int onTheWay() {
            int sum = 0;
            for (int i = 0; i < linkCount; i++) {
                sum += links[i].there.wayCount + links[i].back.wayCount;
            }
            return sum;
        }

        private int fragmentsKept() {
            int sum = 0;
            for (int i = 0; i < nodeCount; i++) {
                sum += nodes[i].fragmentCount();
            }
            return sum;
        }

        private int lettersGot() {
            int sum = 0;
            for (int i = 0; i < streamCount; i++) {
                sum += streams[i].gotCount();
            }
            return sum;
        }
    }
}
