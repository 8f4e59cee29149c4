/**
 * Of each promise: the least and the greatest value that is taken of each argument, all between, the values
 * next to them, which are refused, and which exception is the first. A refused call, and one that asks,
 * changes nothing: not now, and not in all that comes.
 */
public final class ArgumentEdgesTest {
    private static final Class<?> INDEX = IndexOutOfBoundsException.class;
    private static final Class<?> ARGUMENT = IllegalArgumentException.class;
    private static final Class<?> STATE = IllegalStateException.class;
    private static final int[] FAR = {Integer.MIN_VALUE, Integer.MIN_VALUE + 1, -64, 64, 1 << 16, Integer.MAX_VALUE};
    private static final Check CHECK = new Check("ArgumentEdgesTest");

    /** A call with one of its arguments. */
    interface Use {
        long answer(NetLoom loom, int value);
    }

    interface Maker {
        NetLoom make();
    }

    private static final Maker EMPTY = () -> new NetLoom();
    private static final Maker SOME = () -> Nets.some();
    private static final Maker FULL = () -> Nets.full();
    /** Of stream 0 five letters are got, of stream 1 nine. */
    private static final Maker LATER = () -> {
        NetLoom loom = Nets.some();
        loom.run(5);
        return loom;
    };

    public static void main(String[] args) {
        states();
        node();
        link();
        up();
        mark();
        route();
        unroute();
        filter();
        unfilter();
        translator();
        capture();
        plain();
        stream();
        write();
        end();
        run();
        ofNode();
        routeTo();
        ofRoute();
        ofLink();
        ofStream();
        letter();
        lost();
        captured();
        many();
        trace();
        sureIn();
        lostWithout();
        asksOfAll();
        nothingIsThere();
        CHECK.end();
    }

    // ---- how it is tested

    private static Class<?> thrownBy(Use use, NetLoom loom, int value) {
        try {
            use.answer(loom, value);
        } catch (RuntimeException e) {
            return e.getClass();
        }
        return null;
    }

    private static void sameLife(String what, NetLoom one, NetLoom other) {
        CHECK.is(what + ": the digest", one.digest(), other.digest());
        for (int tick = 1; tick <= 24; tick++) {
            CHECK.is(what + ": lost in tick " + tick, one.run(1), other.run(1));
            CHECK.isMean(what + ": mean time in tick " + tick, one.meanTime(), other.meanTime());
            CHECK.is(what + ": the digest in tick " + tick, one.digest(), other.digest());
        }
    }

    private static void refused(String what, Maker maker, Class<?> due, Use use, int value) {
        NetLoom loom = maker.make();
        Class<?> thrown = thrownBy(use, loom, value);
        if (thrown != due) {
            CHECK.fail(what + " of " + value + " threw " + thrown + ", due is " + due);
        }
        sameLife(what + " of " + value + ", refused", loom, maker.make());
    }

    private static void taken(String what, Maker maker, Use use, int value) {
        Class<?> thrown = thrownBy(use, maker.make(), value);
        if (thrown != null) {
            CHECK.fail(what + " of " + value + " threw " + thrown);
        }
    }

    /** Takes all from the least to the greatest value, and refuses those next to them and far from them. */
    private static void range(String what, Maker maker, int least, int most, Class<?> due, Use use) {
        for (int value = least; value <= most; value++) {
            taken(what, maker, use, value);
        }
        refused(what, maker, due, use, least - 1);
        refused(what, maker, due, use, most + 1);
        for (int value : FAR) {
            if (value < least || value > most) {
                refused(what, maker, due, use, value);
            }
        }
    }

    private static void asks(String what, Maker maker, int least, int most, Use use) {
        for (int value = least; value <= most; value++) {
            NetLoom loom = maker.make();
            use.answer(loom, value);
            sameLife(what + " of " + value, loom, maker.make());
        }
    }

    /** What the other tests here rely on. */
    private static void states() {
        NetLoom some = SOME.make();
        int[] dueOfSome = {3, 3, 2, 4};
        int[] dueOfFull = {6, 8, 4, 45};
        for (int what = 0; what < 4; what++) {
            CHECK.is("some, many of " + what, some.many(what), dueOfSome[what]);
            CHECK.is("full, many of " + what, FULL.make().many(what), dueOfFull[what]);
        }
        CHECK.is("some: routes of node 1", some.ofNode(1, 1), 5);
        CHECK.is("some: filters of node 1", some.ofNode(1, 10), 1);
        CHECK.is("some: captures", some.many(8), 1);
        CHECK.is("some: of stream 0 got", some.ofStream(0, 5), 0);
        CHECK.is("later: of stream 0 got", LATER.make().ofStream(0, 5), 5);
        CHECK.is("later: of stream 1 got", LATER.make().ofStream(1, 5), 9);
        for (int what = 5; what <= 7; what++) {
            CHECK.is("some: there is many of " + what, some.many(what) > 0, true);
        }
        NetLoom full = FULL.make();
        CHECK.is("full: routes of node 0", full.ofNode(0, 1), 10);
        CHECK.is("full: filters of node 0", full.ofNode(0, 10), 4);
        CHECK.is("full: captures", full.many(8), 3);
        CHECK.is("full: letters of stream 0", full.ofStream(0, 1), 30);
        for (int stream = 0; stream < 4; stream++) {
            CHECK.is("full: how stream " + stream + " is", full.ofStream(stream, 0), stream);
        }
        CHECK.is("full: in the row", full.ofLink(4, true, 1), 5);
    }

    // ---- what is told

    private static void node() {
        range("2 address", EMPTY, 0, 63, ARGUMENT, (x, v) -> x.node(v));
        int[] there = {0, 21, 63};
        for (int address : there) {
            refused("2 address that another one has", SOME, ARGUMENT, (x, v) -> x.node(v), address);
        }
        int[] beside = {1, 20, 22, 62};
        for (int address : beside) {
            taken("2 address beside those", SOME, (x, v) -> x.node(v), address);
        }
        refused("2 a seventh", FULL, STATE, (x, v) -> x.node(v), 16);
        refused("2 a seventh, another one has it", FULL, ARGUMENT, (x, v) -> x.node(v), 15);
        refused("2 a seventh", FULL, ARGUMENT, (x, v) -> x.node(v), 64);
        refused("2 a seventh", FULL, ARGUMENT, (x, v) -> x.node(v), -1);
    }

    private static void link() {
        range("3 first end", SOME, 0, 2, INDEX, (x, v) -> x.link(v, v == 0 ? 1 : 0, 2, 1));
        range("3 other end", SOME, 0, 2, INDEX, (x, v) -> x.link(v == 0 ? 1 : 0, v, 2, 1));
        range("3 size", SOME, 2, 8, ARGUMENT, (x, v) -> x.link(0, 1, v, 1));
        range("3 delay", SOME, 1, 3, ARGUMENT, (x, v) -> x.link(0, 1, 2, v));
        for (int node = 0; node < 3; node++) {
            refused("3 both ends", SOME, ARGUMENT, (x, v) -> x.link(v, v, 8, 3), node);
        }
        refused("3 no node, though both are the same", SOME, INDEX, (x, v) -> x.link(v, v, 9, 4), 3);
        refused("3 a ninth", FULL, STATE, (x, v) -> x.link(0, v, 8, 3), 1);
        refused("3 a ninth without an end", FULL, INDEX, (x, v) -> x.link(0, v, 8, 3), 6);
        refused("3 a ninth without a first end", FULL, INDEX, (x, v) -> x.link(v, 0, 1, 0), -1);
        refused("3 a ninth, both ends", FULL, ARGUMENT, (x, v) -> x.link(v, v, 8, 3), 5);
        refused("3 a ninth, size", FULL, ARGUMENT, (x, v) -> x.link(0, 1, v, 3), 9);
        refused("3 a ninth, delay", FULL, ARGUMENT, (x, v) -> x.link(0, 1, 8, v), 0);
    }

    private static void up() {
        range("4 link, up", SOME, 0, 2, INDEX, (x, v) -> x.up(v, true));
        range("4 link, down", SOME, 0, 2, INDEX, (x, v) -> x.up(v, false));
        range("4 link of 8", FULL, 0, 7, INDEX, (x, v) -> x.up(v, false));
    }

    private static void mark() {
        range("5 link", SOME, 0, 2, INDEX, (x, v) -> x.mark(v, false, 1, true));
        range("5 link, back", SOME, 0, 2, INDEX, (x, v) -> x.mark(v, true, 20, false));
        range("5 many", SOME, 1, 20, ARGUMENT, (x, v) -> x.mark(0, false, v, false));
        range("5 many, back", SOME, 1, 20, ARGUMENT, (x, v) -> x.mark(2, true, v, true));
        refused("5 no link, and many 0", SOME, INDEX, (x, v) -> x.mark(v, false, 0, false), 3);
        refused("5 no link, and many 21", SOME, INDEX, (x, v) -> x.mark(v, false, 21, false), -1);
    }

    private static void route() {
        range("6 node", SOME, 0, 2, INDEX, (x, v) -> x.route(v, 0, 0, Math.max(0, v - 1), 1));
        range("6 value", SOME, 0, 63, ARGUMENT, (x, v) -> x.route(0, v, 0, 0, 1));
        range("6 bits", SOME, 0, 6, ARGUMENT, (x, v) -> x.route(0, 0, v, 0, 1));
        range("6 cost", SOME, 1, 9, ARGUMENT, (x, v) -> x.route(0, 0, 0, 0, v));
        int[][] noEnds = {{0, 1}, {1, 2}, {2, 0}};
        for (int[] noEnd : noEnds) {
            refused("6 node that is no end, link", SOME, INDEX, (x, v) -> x.route(noEnd[0], 64, 7, v, 10), noEnd[1]);
        }
        refused("6 link", SOME, INDEX, (x, v) -> x.route(0, 0, 0, v, 1), -1);
        refused("6 link", SOME, INDEX, (x, v) -> x.route(0, 0, 0, v, 1), 3);
        refused("6 an eleventh, link", FULL, STATE, (x, v) -> x.route(0, 63, 6, v, 9), 0);
        refused("6 an eleventh, no such link of it", FULL, INDEX, (x, v) -> x.route(0, 64, 6, v, 9), 1);
        refused("6 an eleventh, value", FULL, ARGUMENT, (x, v) -> x.route(0, v, 6, 0, 9), 64);
        refused("6 an eleventh, bits", FULL, ARGUMENT, (x, v) -> x.route(0, 63, v, 0, 9), 7);
        refused("6 an eleventh, cost", FULL, ARGUMENT, (x, v) -> x.route(0, 63, 6, 0, v), 0);
    }

    private static void unroute() {
        range("7 node", SOME, 0, 2, INDEX, (x, v) -> x.unroute(v, 0) ? 1 : 0);
        range("7 k", SOME, 0, 4, INDEX, (x, v) -> x.unroute(1, v) ? 1 : 0);
        range("7 k of 10", FULL, 0, 9, INDEX, (x, v) -> x.unroute(0, v) ? 1 : 0);
    }

    private static void filter() {
        range("9 node", SOME, 0, 2, INDEX, (x, v) -> x.filter(v, 0, 0, 0, 0, 0, false, true));
        range("9 source", SOME, 0, 63, ARGUMENT, (x, v) -> x.filter(1, v, 0, 0, 0, 0, false, true));
        range("9 source bits", SOME, 0, 6, ARGUMENT, (x, v) -> x.filter(1, 0, v, 0, 0, 0, false, true));
        range("9 target", SOME, 0, 63, ARGUMENT, (x, v) -> x.filter(1, 0, 0, v, 0, 0, true, false));
        range("9 target bits", SOME, 0, 6, ARGUMENT, (x, v) -> x.filter(1, 0, 0, 0, v, 0, true, false));
        range("9 kind", SOME, -1, 3, ARGUMENT, (x, v) -> x.filter(1, 0, 0, 0, 0, v, true, true));
        refused("9 no node, and all else", FULL, INDEX, (x, v) -> x.filter(v, 64, 7, 64, 7, 4, true, true), 6);
        refused("9 a fifth, source", FULL, STATE, (x, v) -> x.filter(0, v, 6, 63, 6, 3, true, true), 63);
        refused("9 a fifth, source", FULL, ARGUMENT, (x, v) -> x.filter(0, v, 6, 63, 6, 3, true, true), 64);
        refused("9 a fifth, source bits", FULL, ARGUMENT, (x, v) -> x.filter(0, 0, v, 63, 6, 3, true, true), 7);
        refused("9 a fifth, target", FULL, ARGUMENT, (x, v) -> x.filter(0, 0, 0, v, 6, 3, true, true), -1);
        refused("9 a fifth, target bits", FULL, ARGUMENT, (x, v) -> x.filter(0, 0, 0, 0, v, 3, true, true), -1);
        refused("9 a fifth, kind", FULL, ARGUMENT, (x, v) -> x.filter(0, 0, 0, 0, 0, v, true, true), -2);
    }

    private static void unfilter() {
        range("10 node", SOME, 0, 2, INDEX, (x, v) -> x.unfilter(v));
        range("10 node of 6", FULL, 0, 5, INDEX, (x, v) -> x.unfilter(v));
    }

    private static void translator() {
        range("11 node", SOME, 0, 2, INDEX, (x, v) -> x.translator(v, 0, 0));
        range("11 value", SOME, 0, 63, ARGUMENT, (x, v) -> x.translator(1, v, 6));
        range("11 value, for none", SOME, 0, 63, ARGUMENT, (x, v) -> x.translator(1, v, -1));
        range("11 bits", SOME, -1, 6, ARGUMENT, (x, v) -> x.translator(1, 63, v));
        refused("11 no node, and all else", SOME, INDEX, (x, v) -> x.translator(v, 64, 7), 3);
    }

    private static void capture() {
        range("12 node", SOME, 0, 2, INDEX, (x, v) -> x.capture(v, 0, 0, 0, 0, 0));
        range("12 source", SOME, 0, 63, ARGUMENT, (x, v) -> x.capture(1, v, 0, 0, 0, 0));
        range("12 source bits", SOME, 0, 6, ARGUMENT, (x, v) -> x.capture(1, 0, v, 0, 0, 0));
        range("12 target", SOME, 0, 63, ARGUMENT, (x, v) -> x.capture(1, 0, 0, v, 0, 0));
        range("12 target bits", SOME, 0, 6, ARGUMENT, (x, v) -> x.capture(1, 0, 0, 0, v, 0));
        range("12 kind", SOME, -1, 3, ARGUMENT, (x, v) -> x.capture(1, 0, 0, 0, 0, v));
        refused("12 no node, and all else", FULL, INDEX, (x, v) -> x.capture(v, 64, 7, 64, 7, 4), -1);
        refused("12 a fourth, source", FULL, STATE, (x, v) -> x.capture(5, v, 6, 63, 6, 3), 63);
        refused("12 a fourth, source", FULL, ARGUMENT, (x, v) -> x.capture(5, v, 6, 63, 6, 3), -1);
        refused("12 a fourth, source bits", FULL, ARGUMENT, (x, v) -> x.capture(5, 0, v, 63, 6, 3), -1);
        refused("12 a fourth, target", FULL, ARGUMENT, (x, v) -> x.capture(5, 0, 0, v, 6, 3), 64);
        refused("12 a fourth, target bits", FULL, ARGUMENT, (x, v) -> x.capture(5, 0, 0, 0, v, 3), 7);
        refused("12 a fourth, kind", FULL, ARGUMENT, (x, v) -> x.capture(5, 0, 0, 0, 0, v), 4);
    }

    // ---- what is sent

    private static void plain() {
        range("13 node", SOME, 0, 2, INDEX, (x, v) -> x.plain(v, 0, 0, 0));
        range("13 target", SOME, 0, 63, ARGUMENT, (x, v) -> x.plain(1, v, 0, 0));
        range("13 mark", SOME, 0, 99, ARGUMENT, (x, v) -> x.plain(1, 0, v, 0));
        range("13 size", SOME, 0, 8, ARGUMENT, (x, v) -> x.plain(1, 0, 0, v));
        refused("13 no node, and all else", SOME, INDEX, (x, v) -> x.plain(v, 64, 100, 9), 3);
    }

    private static void stream() {
        range("14 node", SOME, 0, 2, INDEX, (x, v) -> x.stream(v, v == 0 ? 21 : 0, 4));
        range("14 window", SOME, 4, 12, ARGUMENT, (x, v) -> x.stream(0, 63, v));
        for (int address = -1; address <= 64; address++) {
            if (address == 21 || address == 63) {
                taken("14 target", SOME, (x, v) -> x.stream(0, v, 4), address);
            } else {
                refused("14 target that is no other one's", SOME, ARGUMENT, (x, v) -> x.stream(0, v, 4), address);
            }
        }
        refused("14 no node, and all else", FULL, INDEX, (x, v) -> x.stream(v, 64, 13), 6);
        refused("14 a fifth, window", FULL, STATE, (x, v) -> x.stream(0, 11, v), 4);
        refused("14 a fifth, window", FULL, ARGUMENT, (x, v) -> x.stream(0, 11, v), 3);
        refused("14 a fifth, target", FULL, ARGUMENT, (x, v) -> x.stream(0, v, 4), 10);
    }

    private static void write() {
        range("15 stream", SOME, 0, 1, INDEX, (x, v) -> x.write(v, 0));
        range("15 letter", SOME, 0, 9, ARGUMENT, (x, v) -> x.write(1, v));
        refused("15 no stream, and no letter", SOME, INDEX, (x, v) -> x.write(v, 10), 2);
        for (int stream = 0; stream < 4; stream++) {
            refused("15 30 were, ended, over, broken", FULL, STATE, (x, v) -> x.write(v, 9), stream);
            refused("15 the same, and no letter", FULL, ARGUMENT, (x, v) -> x.write(v, 10), stream);
            refused("15 the same, and no letter", FULL, ARGUMENT, (x, v) -> x.write(v, -1), stream);
        }
    }

    private static void end() {
        range("16 stream", SOME, 0, 1, INDEX, (x, v) -> x.end(v));
        taken("16 of 30 letters", FULL, (x, v) -> x.end(v), 0);
        for (int stream = 1; stream < 4; stream++) {
            refused("16 ended, over, broken", FULL, STATE, (x, v) -> x.end(v), stream);
        }
        refused("16 a fifth", FULL, INDEX, (x, v) -> x.end(v), 4);
    }

    private static void run() {
        range("17 ticks", SOME, 1, 60, ARGUMENT, (x, v) -> x.run(v));
        range("17 ticks of none", EMPTY, 1, 60, ARGUMENT, (x, v) -> x.run(v));
    }

    // ---- what one asks

    private static void ofNode() {
        range("18 node", SOME, 0, 2, INDEX, (x, v) -> x.ofNode(v, 0));
        range("18 node of 6", FULL, 0, 5, INDEX, (x, v) -> x.ofNode(v, 10));
        range("18 what", SOME, 0, 10, ARGUMENT, (x, v) -> x.ofNode(2, v));
        refused("18 neither", SOME, INDEX, (x, v) -> x.ofNode(3, v), 11);
    }

    private static void routeTo() {
        range("19 node", SOME, 0, 2, INDEX, (x, v) -> x.routeTo(v, 0));
        range("19 address", SOME, 0, 63, ARGUMENT, (x, v) -> x.routeTo(2, v));
        refused("19 neither", SOME, INDEX, (x, v) -> x.routeTo(-1, v), 64);
    }

    private static void ofRoute() {
        range("20 node", SOME, 0, 2, INDEX, (x, v) -> x.ofRoute(v, 0, 0));
        range("20 k", SOME, 0, 4, INDEX, (x, v) -> x.ofRoute(1, v, 4));
        range("20 k of 10", FULL, 0, 9, INDEX, (x, v) -> x.ofRoute(0, v, 4));
        range("20 what", SOME, 0, 4, ARGUMENT, (x, v) -> x.ofRoute(1, 4, v));
        refused("20 no route, and no what", SOME, INDEX, (x, v) -> x.ofRoute(1, 5, v), 5);
        refused("20 nothing of all", SOME, INDEX, (x, v) -> x.ofRoute(3, 5, v), -1);
    }

    private static void ofLink() {
        range("21 link", SOME, 0, 2, INDEX, (x, v) -> x.ofLink(v, false, 0));
        range("21 link of 8", FULL, 0, 7, INDEX, (x, v) -> x.ofLink(v, true, 6));
        range("21 what", SOME, 0, 6, ARGUMENT, (x, v) -> x.ofLink(2, false, v));
        range("21 what, back", SOME, 0, 6, ARGUMENT, (x, v) -> x.ofLink(2, true, v));
        refused("21 neither", SOME, INDEX, (x, v) -> x.ofLink(3, true, v), 7);
    }

    private static void ofStream() {
        range("22 stream", SOME, 0, 1, INDEX, (x, v) -> x.ofStream(v, 0));
        range("22 stream of 4", FULL, 0, 3, INDEX, (x, v) -> x.ofStream(v, 9));
        range("22 what", SOME, 0, 9, ARGUMENT, (x, v) -> x.ofStream(1, v));
        refused("22 neither", SOME, INDEX, (x, v) -> x.ofStream(2, v), 10);
    }

    private static void letter() {
        range("23 stream", LATER, 0, 1, INDEX, (x, v) -> x.letter(v, 0));
        range("23 k, of 5 that are got", LATER, 0, 4, INDEX, (x, v) -> x.letter(0, v));
        range("23 k, of 9 that are got", LATER, 0, 8, INDEX, (x, v) -> x.letter(1, v));
        refused("23 none is got", SOME, INDEX, (x, v) -> x.letter(0, v), 0);
        refused("23 none was written", FULL, INDEX, (x, v) -> x.letter(2, v), 0);
    }

    private static void lost() {
        range("24 loss", EMPTY, 0, 6, ARGUMENT, (x, v) -> x.lost(v));
        range("24 loss", SOME, 0, 6, ARGUMENT, (x, v) -> x.lost(v));
    }

    private static void captured() {
        range("25 capture", SOME, 0, 0, INDEX, (x, v) -> x.captured(v));
        range("25 capture of 3", FULL, 0, 2, INDEX, (x, v) -> x.captured(v));
    }

    private static void many() {
        range("26 what", EMPTY, 0, 9, ARGUMENT, (x, v) -> x.many(v));
        range("26 what", SOME, 0, 9, ARGUMENT, (x, v) -> x.many(v));
    }

    // ---- what would be

    private static void trace() {
        range("28 node", SOME, 0, 2, INDEX, (x, v) -> x.trace(v, 0, 0));
        range("28 address", SOME, 0, 63, ARGUMENT, (x, v) -> x.trace(2, v, 1));
        int[] below = {-1, -2, Integer.MIN_VALUE};
        for (int k : below) {
            refused("28 k", SOME, ARGUMENT, (x, v) -> x.trace(0, 63, v), k);
        }
        int[] any = {0, 1, 6, 7, 64, Integer.MAX_VALUE};
        for (int k : any) {
            taken("28 k", SOME, (x, v) -> x.trace(0, 63, v), k);
        }
        refused("28 no node, and all else", SOME, INDEX, (x, v) -> x.trace(3, 64, v), -1);
    }

    private static void sureIn() {
        range("29 stream", SOME, 0, 1, INDEX, (x, v) -> x.sureIn(v, 1));
        range("29 stream of 4", FULL, 0, 3, INDEX, (x, v) -> x.sureIn(v, 60));
        range("29 ticks", SOME, 1, 60, ARGUMENT, (x, v) -> x.sureIn(0, v));
        refused("29 neither", SOME, INDEX, (x, v) -> x.sureIn(2, v), 0);
    }

    private static void lostWithout() {
        range("30 link", SOME, 0, 2, INDEX, (x, v) -> x.lostWithout(v, 1));
        range("30 link of 8", FULL, 0, 7, INDEX, (x, v) -> x.lostWithout(v, 60));
        range("30 ticks", SOME, 1, 60, ARGUMENT, (x, v) -> x.lostWithout(0, v));
        refused("30 neither", SOME, INDEX, (x, v) -> x.lostWithout(-1, v), 61);
    }

    /** Promises 18 to 31: who asks changes nothing. */
    private static void asksOfAll() {
        asks("18", SOME, 0, 10, (x, v) -> x.ofNode(1, v));
        asks("19", SOME, 0, 2, (x, v) -> x.routeTo(v, 63));
        asks("20", SOME, 0, 4, (x, v) -> x.ofRoute(1, 4, v));
        asks("21", SOME, 0, 6, (x, v) -> x.ofLink(1, true, v));
        asks("22", SOME, 0, 9, (x, v) -> x.ofStream(1, v));
        asks("23", LATER, 0, 4, (x, v) -> x.letter(0, v));
        asks("24", SOME, 0, 6, (x, v) -> x.lost(v));
        asks("25", SOME, 0, 0, (x, v) -> x.captured(v));
        asks("26", SOME, 0, 9, (x, v) -> x.many(v));
        asks("27", SOME, 0, 0, (x, v) -> (long) x.meanTime());
        asks("28", SOME, 0, 7, (x, v) -> x.trace(0, 63, v));
        asks("29", SOME, 1, 60, (x, v) -> x.sureIn(v % 2, v));
        asks("30", SOME, 1, 60, (x, v) -> x.lostWithout(v % 3, v));
        asks("30, of all that may be", FULL, 0, 7, (x, v) -> x.lostWithout(v, 60));
        asks("31", SOME, 0, 0, (x, v) -> x.digest());
    }

    /** A new object refuses all that needs a node, a link, a stream or a capture. */
    private static void nothingIsThere() {
        Use[] uses = {
            (x, v) -> x.link(v, v, 1, 0), (x, v) -> x.up(v, true), (x, v) -> x.mark(v, true, 0, true),
            (x, v) -> x.route(v, 64, 7, 0, 0), (x, v) -> x.unroute(v, 0) ? 1 : 0,
            (x, v) -> x.filter(v, 64, 7, 64, 7, 4, true, true), (x, v) -> x.unfilter(v),
            (x, v) -> x.translator(v, 64, 7), (x, v) -> x.capture(v, 64, 7, 64, 7, 4),
            (x, v) -> x.plain(v, 64, 100, 9), (x, v) -> x.stream(v, 64, 3), (x, v) -> x.write(v, 10),
            (x, v) -> x.end(v), (x, v) -> x.ofNode(v, 11), (x, v) -> x.routeTo(v, 64),
            (x, v) -> x.ofRoute(v, 0, 5), (x, v) -> x.ofLink(v, false, 7), (x, v) -> x.ofStream(v, 10),
            (x, v) -> x.letter(v, 0), (x, v) -> x.captured(v), (x, v) -> x.trace(v, 64, -1),
            (x, v) -> x.sureIn(v, 0), (x, v) -> x.lostWithout(v, 0),
        };
        for (int i = 0; i < uses.length; i++) {
            for (int value = -1; value <= 6; value++) {
                refused("1 of a new one, use " + i, EMPTY, INDEX, uses[i], value);
            }
        }
    }
}
