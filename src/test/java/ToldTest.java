/** Promises 1 to 12: what is told. */
public final class ToldTest {
    private static final Class<?> INDEX = IndexOutOfBoundsException.class;
    private static final Class<?> ARGUMENT = IllegalArgumentException.class;
    private static final Class<?> STATE = IllegalStateException.class;
    private static final Check CHECK = new Check("ToldTest");

    public static void main(String[] args) {
        newObject();
        node();
        link();
        up();
        mark();
        markHoldsTheLast();
        route();
        routeOrder();
        unroute();
        talk();
        talkOfCosts();
        talkWithoutRoom();
        talkMakesRoom();
        filter();
        filterKnown();
        unfilter();
        translator();
        notesOfTranslation();
        capture();
        CHECK.end();
    }

    private static void newObject() {
        NetLoom loom = new NetLoom();
        for (int what = 0; what <= 9; what++) {
            CHECK.is("1 many of a new one", loom.many(what), 0);
        }
        for (int loss = 0; loss <= 6; loss++) {
            CHECK.is("1 lost of a new one", loom.lost(loss), 0);
        }
        CHECK.is("1 digest of a new one", loom.digest(), -7279843945008978956L);
        CHECK.refuses("1 ofNode", loom, INDEX, () -> loom.ofNode(0, 0));
        CHECK.is("1 talk of none", loom.talk(), 0);
        CHECK.is("1 run of none", loom.run(60), 0);
    }

    private static void node() {
        NetLoom loom = new NetLoom();
        CHECK.refuses("2 node(-1)", loom, ARGUMENT, () -> loom.node(-1));
        CHECK.refuses("2 node(64)", loom, ARGUMENT, () -> loom.node(64));
        CHECK.is("2 node(0)", loom.node(0), 0);
        CHECK.is("2 node(63)", loom.node(63), 1);
        CHECK.refuses("2 node(63) again", loom, ARGUMENT, () -> loom.node(63));
        for (int i = 2; i < 6; i++) {
            CHECK.is("2 node", loom.node(i), i);
        }
        CHECK.refuses("2 a seventh", loom, STATE, () -> loom.node(40));
        CHECK.refuses("2 a seventh with an address that is there", loom, ARGUMENT, () -> loom.node(63));
        CHECK.refuses("2 a seventh without an address", loom, ARGUMENT, () -> loom.node(64));
        CHECK.is("2 address", loom.ofNode(1, 0), 63);
    }

    private static void link() {
        NetLoom loom = new NetLoom();
        loom.node(1);
        loom.node(2);
        CHECK.refuses("3 no end", loom, INDEX, () -> loom.link(0, 2, 1, 0));
        CHECK.refuses("3 no first end", loom, INDEX, () -> loom.link(-1, 1, 2, 1));
        CHECK.refuses("3 same ends", loom, ARGUMENT, () -> loom.link(1, 1, 2, 1));
        CHECK.refuses("3 size 1", loom, ARGUMENT, () -> loom.link(0, 1, 1, 1));
        CHECK.refuses("3 size 9", loom, ARGUMENT, () -> loom.link(0, 1, 9, 1));
        CHECK.refuses("3 delay 0", loom, ARGUMENT, () -> loom.link(0, 1, 2, 0));
        CHECK.refuses("3 delay 4", loom, ARGUMENT, () -> loom.link(0, 1, 2, 4));
        for (int i = 0; i < 8; i++) {
            CHECK.is("3 link", loom.link(i % 2, 1 - i % 2, 2 + i % 7, 1 + i % 3), i);
        }
        CHECK.refuses("3 a ninth", loom, STATE, () -> loom.link(0, 1, 2, 1));
        CHECK.refuses("3 a ninth of size 1", loom, ARGUMENT, () -> loom.link(0, 1, 1, 1));
        CHECK.is("3 first end", loom.ofLink(1, false, 0), 1);
        CHECK.is("3 other end", loom.ofLink(1, true, 0), 0);
        CHECK.is("3 it is up", loom.ofLink(1, true, 6), 1);
    }

    private static void up() {
        NetLoom loom = Nets.talkedLine(2, 2, 3);
        CHECK.refuses("4 no link", loom, INDEX, () -> loom.up(1, true));
        CHECK.refuses("4 link -1", loom, INDEX, () -> loom.up(-1, true));
        loom.plain(0, 11, 1, 6);
        loom.plain(1, 10, 2, 0);
        loom.mark(0, true, 1, true);
        CHECK.is("4 run", loom.run(2), 0);
        CHECK.is("4 two there and two back are on the way", loom.many(6), 4);
        CHECK.is("4 it goes down", loom.up(0, false), 4);
        CHECK.is("4 lost", loom.lost(3), 4);
        CHECK.is("4 none on the way", loom.many(6), 0);
        CHECK.is("4 rows stay", loom.many(5), 1);
        CHECK.is("4 no route over it", loom.routeTo(0, 11), -1);
        CHECK.is("4 down once more", loom.up(0, false), 0);
        loom.run(5);
        CHECK.is("4 none leaves", loom.ofLink(0, false, 3), 2);
        CHECK.is("4 is it up", loom.ofLink(0, false, 6), 0);
        CHECK.is("4 it goes up", loom.up(0, true), 0);
        CHECK.is("4 a route again", loom.routeTo(0, 11), 0);
        loom.run(1);
        CHECK.is("4 the last one leaves", loom.ofLink(0, false, 3), 3);
    }

    private static void mark() {
        NetLoom loom = Nets.talkedLine(2, 8, 1);
        CHECK.refuses("5 no link", loom, INDEX, () -> loom.mark(1, false, 0, true));
        CHECK.refuses("5 many 0", loom, ARGUMENT, () -> loom.mark(0, false, 0, true));
        CHECK.refuses("5 many 21", loom, ARGUMENT, () -> loom.mark(0, false, 21, true));
        CHECK.is("5 none left", loom.mark(0, false, 1, false), 0);
        CHECK.is("5 other direction", loom.mark(0, true, 1, true), 0);
        loom.plain(0, 11, 1, 1);
        loom.plain(0, 11, 2, 1);
        loom.plain(1, 10, 3, 1);
        CHECK.is("5 the first is lost", loom.run(1), 1);
        CHECK.is("5 by what was told", loom.lost(2), 1);
        CHECK.is("5 the other one is twice on the way", loom.ofLink(0, true, 2), 2);
        CHECK.is("5 it left, too", loom.ofLink(0, false, 3), 1);
        CHECK.is("5 one left", loom.mark(0, false, 20, false), 1);
        loom.run(2);
        CHECK.is("5 the second came", loom.ofNode(1, 4), 2);
        CHECK.is("5 the doubled one came twice", loom.ofNode(0, 3), 2);
        for (int i = 3; i <= 22; i++) {
            loom.plain(0, 11, i, 0);
            CHECK.is("5 the 21st is lost, none else", loom.run(1), i == 21 ? 1 : 0);
        }
    }

    private static void markHoldsTheLast() {
        NetLoom loom = Nets.talkedLine(2, 8, 1);
        loom.mark(0, false, 2, false);
        loom.plain(0, 11, 1, 0);
        CHECK.is("5 the first is let", loom.run(1), 0);
        loom.mark(0, false, 1, true);
        loom.plain(0, 11, 2, 0);
        CHECK.is("5 what was told last holds", loom.run(1), 0);
        CHECK.is("5 doubled", loom.many(6), 2);
    }

    private static void route() {
        NetLoom loom = Nets.line(3, 8, 1);
        CHECK.refuses("6 no node", loom, INDEX, () -> loom.route(3, 64, 0, 0, 1));
        CHECK.refuses("6 no link", loom, INDEX, () -> loom.route(0, 64, 0, 2, 1));
        CHECK.refuses("6 no end of it", loom, INDEX, () -> loom.route(0, 64, 0, 1, 1));
        CHECK.refuses("6 value -1", loom, ARGUMENT, () -> loom.route(0, -1, 0, 0, 1));
        CHECK.refuses("6 value 64", loom, ARGUMENT, () -> loom.route(0, 64, 0, 0, 1));
        CHECK.refuses("6 bits -1", loom, ARGUMENT, () -> loom.route(0, 0, -1, 0, 1));
        CHECK.refuses("6 bits 7", loom, ARGUMENT, () -> loom.route(0, 0, 7, 0, 1));
        CHECK.refuses("6 cost 0", loom, ARGUMENT, () -> loom.route(0, 0, 0, 0, 0));
        CHECK.refuses("6 cost 10", loom, ARGUMENT, () -> loom.route(0, 0, 0, 0, 10));
        for (int i = 0; i < 10; i++) {
            CHECK.is("6 route", loom.route(1, i, 6, i % 2, 9), i);
        }
        CHECK.refuses("6 an eleventh", loom, STATE, () -> loom.route(1, 0, 0, 0, 1));
        CHECK.refuses("6 an eleventh of cost 10", loom, ARGUMENT, () -> loom.route(1, 0, 0, 0, 10));
    }

    private static void routeOrder() {
        NetLoom loom = new NetLoom();
        loom.node(0);
        loom.node(42);
        loom.link(0, 1, 8, 1);
        loom.link(0, 1, 8, 1);
        CHECK.is("6 bits 0 have all", loom.route(0, 63, 0, 1, 1), 0);
        CHECK.is("6 to 42", loom.routeTo(0, 42), 0);
        CHECK.is("6 to 0", loom.routeTo(0, 0), 0);
        loom.route(0, 0b101111, 3, 1, 9);
        CHECK.is("6 more bits", loom.routeTo(0, 0b101010), 1);
        CHECK.is("6 not in it", loom.routeTo(0, 0b100010), 0);
        loom.route(0, 0b101000, 3, 1, 8);
        CHECK.is("6 less cost", loom.routeTo(0, 0b101010), 2);
        loom.route(0, 0b101000, 3, 0, 8);
        CHECK.is("6 smaller link", loom.routeTo(0, 0b101010), 3);
        loom.route(0, 0b101001, 3, 0, 8);
        CHECK.is("6 what came first", loom.routeTo(0, 0b101010), 3);
        loom.talk();
        CHECK.is("6 learned ones have 6 bits", loom.routeTo(0, 42), 5);
        loom.route(0, 42, 6, 1, 1);
        CHECK.is("6 told ones ahead, though the link is greater", loom.routeTo(0, 42), 7);
        loom.up(1, false);
        CHECK.is("6 only what is up", loom.routeTo(0, 42), 5);
        loom.up(0, false);
        CHECK.is("6 none", loom.routeTo(0, 42), -1);
    }

    private static void unroute() {
        NetLoom loom = Nets.line(2, 8, 1);
        loom.route(0, 1, 6, 0, 1);
        loom.talk();
        loom.route(0, 2, 6, 0, 2);
        CHECK.refuses("7 no node", loom, INDEX, () -> loom.unroute(2, 0) ? 1 : 0);
        CHECK.refuses("7 no route", loom, INDEX, () -> loom.unroute(0, 3) ? 1 : 0);
        CHECK.refuses("7 route -1", loom, INDEX, () -> loom.unroute(0, -1) ? 1 : 0);
        CHECK.is("7 a told one", loom.unroute(0, 0), false);
        CHECK.is("7 moved up", loom.ofRoute(0, 1, 0), 2);
        CHECK.is("7 a learned one", loom.unroute(0, 0), true);
        CHECK.is("7 moved up again", loom.ofRoute(0, 0, 0), 2);
        CHECK.is("7 one stays", loom.ofNode(0, 1), 1);
        CHECK.refuses("7 no such one any more", loom, INDEX, () -> loom.unroute(0, 1) ? 1 : 0);
    }

    private static void talk() {
        NetLoom loom = Nets.line(4, 8, 1);
        CHECK.is("8 neighbours", loom.talk(), 6);
        CHECK.is("8 and theirs, as known ahead of it", loom.talk(), 10);
        CHECK.is("8 all", loom.talk(), 12);
        CHECK.is("8 no more", loom.talk(), 12);
        CHECK.is("8 the cost counts the links", loom.ofRoute(0, 2, 3), 3);
        CHECK.is("8 the address", loom.ofRoute(0, 2, 0), 13);
        CHECK.is("8 bits", loom.ofRoute(0, 2, 1), 6);
        CHECK.is("8 none to itself", loom.routeTo(0, 10), -1);
        loom.up(1, false);
        CHECK.is("8 what is learned stays as a link goes down", loom.ofNode(0, 2), 3);
        CHECK.is("8 what was not told is gone", loom.talk(), 4);
        CHECK.is("8 it is to 11", loom.ofRoute(0, 0, 0), 11);
    }

    private static void talkOfCosts() {
        NetLoom loom = Nets.line(3, 8, 1);
        loom.node(20);
        loom.route(1, 20, 6, 1, 7);
        CHECK.is("8 told routes are told on, to both sides but their own", loom.talk(), 5);
        CHECK.is("8 one more", loom.ofRoute(0, 1, 3), 8);
        CHECK.is("8 in its place", loom.ofRoute(0, 1, 0), 20);
        loom.route(0, 5, 0, 0, 1);
        loom.unroute(1, 0);
        loom.route(1, 20, 6, 1, 8);
        CHECK.is("8 a cost of 9 is gone, 12 to 0 and 10 to 2 are new", loom.talk(), 6);
        CHECK.is("8 no longer to 20", loom.ofRoute(0, 1, 0), 5);
        NetLoom loop = Nets.line(3, 8, 1);
        loop.link(2, 0, 8, 1);
        loop.talk();
        loop.talk();
        CHECK.is("8 two ways to each", loop.talk(), 12);
        CHECK.is("8 by the nearer", loop.trace(0, 12, 1), 2);
        loop.up(2, false);
        loop.talk();
        CHECK.is("8 by the other one", loop.trace(0, 12, 1), 1);
    }

    private static void talkWithoutRoom() {
        NetLoom loom = Nets.line(3, 8, 1);
        for (int i = 0; i < 9; i++) {
            loom.route(1, 40 + i, 6, 0, 1);
        }
        CHECK.is("8 room for one", loom.talk(), 3);
        CHECK.is("8 the first that was told", loom.ofRoute(1, 9, 0), 10);
        loom.unroute(1, 0);
        CHECK.is("8 room for the other", loom.talk(), 5);
        CHECK.is("8 behind", loom.ofRoute(1, 9, 0), 12);
    }

    private static void talkMakesRoom() {
        NetLoom loom = Nets.line(3, 8, 1);
        loom.node(20);
        loom.node(21);
        for (int i = 0; i < 8; i++) {
            loom.route(0, 40 + i, 6, 0, 1);
        }
        loom.route(1, 20, 6, 1, 7);
        loom.talk();
        CHECK.is("8 ten", loom.ofNode(0, 1), 10);
        CHECK.is("8 the last is to 20", loom.ofRoute(0, 9, 0), 20);
        loom.unroute(1, 0);
        loom.route(1, 20, 6, 1, 8);
        loom.route(1, 21, 6, 1, 1);
        loom.talk();
        CHECK.is("8 that of cost 9 is gone at once, so there is room", loom.ofRoute(0, 9, 0), 21);
    }

    private static void filter() {
        NetLoom loom = Nets.talkedLine(3, 8, 1);
        CHECK.refuses("9 no node", loom, INDEX, () -> loom.filter(3, 64, 0, 0, 0, 0, true, true));
        CHECK.refuses("9 source", loom, ARGUMENT, () -> loom.filter(0, 64, 0, 0, 0, 0, true, true));
        CHECK.refuses("9 source bits", loom, ARGUMENT, () -> loom.filter(0, 0, 7, 0, 0, 0, true, true));
        CHECK.refuses("9 target", loom, ARGUMENT, () -> loom.filter(0, 0, 0, -1, 0, 0, true, true));
        CHECK.refuses("9 target bits", loom, ARGUMENT, () -> loom.filter(0, 0, 0, 0, -1, 0, true, true));
        CHECK.refuses("9 kind 4", loom, ARGUMENT, () -> loom.filter(0, 0, 0, 0, 0, 4, true, true));
        CHECK.refuses("9 kind -2", loom, ARGUMENT, () -> loom.filter(0, 0, 0, 0, 0, -2, true, true));
        CHECK.is("9 one", loom.filter(1, 10, 6, 12, 6, 0, false, true), 1);
        CHECK.is("9 two", loom.filter(1, 10, 6, 0, 0, -1, false, false), 2);
        CHECK.is("9 three", loom.filter(1, 0, 0, 10, 6, 1, false, false), 3);
        CHECK.is("9 four", loom.filter(1, 0, 0, 10, 6, 3, false, false), 4);
        CHECK.refuses("9 a fifth", loom, STATE, () -> loom.filter(1, 0, 0, 0, 0, 0, true, true));
        CHECK.refuses("9 a fifth of kind 4", loom, ARGUMENT, () -> loom.filter(1, 0, 0, 0, 0, 4, true, true));
        loom.plain(0, 12, 1, 1);
        loom.plain(0, 11, 2, 1);
        loom.plain(2, 10, 3, 1);
        CHECK.is("9 the second is dropped", loom.run(5), 1);
        CHECK.is("9 so it is lost", loom.lost(6), 1);
        CHECK.is("9 the first one that fits lets", loom.ofNode(2, 4), 1);
        CHECK.is("9 none fits, it is let", loom.ofNode(0, 4), 3);
        CHECK.is("9 dropped without a note", loom.many(4), 3);
    }

    private static void filterKnown() {
        NetLoom loom = Nets.talkedLine(3, 8, 1);
        loom.filter(1, 12, 6, 0, 0, -1, true, true);
        loom.filter(1, 12, 6, 0, 0, -1, false, false);
        loom.plain(2, 10, 1, 0);
        CHECK.is("9 not known", loom.run(3), 1);
        loom.plain(0, 12, 2, 0);
        loom.run(3);
        loom.plain(2, 10, 3, 0);
        CHECK.is("9 known", loom.run(3), 0);
        CHECK.is("9 it came", loom.ofNode(0, 4), 3);
        loom.plain(2, 11, 4, 0);
        CHECK.is("9 not known of another pair", loom.run(3), 1);
        loom.unfilter(1);
        loom.filter(1, 0, 0, 0, 0, -1, true, true);
        loom.filter(1, 0, 0, 0, 0, -1, false, false);
        loom.plain(1, 63, 5, 0);
        loom.plain(1, 12, 6, 0);
        loom.plain(2, 11, 7, 0);
        CHECK.is("9 known by what was made there", loom.run(3), 0);
        CHECK.is("9 it came there", loom.ofNode(1, 4), 7);
        loom.plain(2, 10, 8, 0);
        loom.plain(2, 11, 9, 0);
        CHECK.is("9 each stays known", loom.run(4), 0);
    }

    private static void unfilter() {
        NetLoom loom = Nets.talkedLine(2, 8, 1);
        CHECK.refuses("10 no node", loom, INDEX, () -> loom.unfilter(2));
        CHECK.is("10 none", loom.unfilter(1), 0);
        loom.filter(1, 0, 0, 0, 0, -1, false, false);
        loom.filter(1, 0, 0, 0, 0, -1, false, false);
        CHECK.is("10 two", loom.unfilter(1), 2);
        CHECK.is("10 none is there", loom.ofNode(1, 10), 0);
        loom.plain(0, 11, 1, 0);
        CHECK.is("10 nothing is dropped", loom.run(2), 0);
    }

    private static void translator() {
        NetLoom loom = Nets.talkedLine(3, 8, 1);
        CHECK.refuses("11 no node", loom, INDEX, () -> loom.translator(3, 64, 0));
        CHECK.refuses("11 value", loom, ARGUMENT, () -> loom.translator(1, 64, 0));
        CHECK.refuses("11 value for none", loom, ARGUMENT, () -> loom.translator(1, -1, -1));
        CHECK.refuses("11 bits -2", loom, ARGUMENT, () -> loom.translator(1, 0, -2));
        CHECK.refuses("11 bits 7", loom, ARGUMENT, () -> loom.translator(1, 0, 7));
        CHECK.is("11 no notes", loom.translator(1, 10, 6), 0);
        loom.capture(2, 11, 6, 12, 6, 0);
        loom.plain(0, 12, 7, 2);
        CHECK.is("11 it comes", loom.run(3), 0);
        CHECK.is("11 from the translator", loom.captured(0), 1);
        CHECK.is("11 one note", loom.ofNode(1, 9), 1);
        loom.plain(2, 11, 7, 1);
        loom.plain(2, 11, 8, 1);
        loom.run(3);
        CHECK.is("11 back to whom the mark is", loom.ofNode(0, 4), 7);
        CHECK.is("11 another mark is for the node itself", loom.ofNode(1, 4), 8);
        CHECK.is("11 notes stay", loom.translator(1, 0, -1), 1);
        loom.plain(2, 11, 7, 1);
        loom.plain(0, 12, 9, 1);
        loom.run(3);
        CHECK.is("11 and translate back", loom.ofNode(0, 3), 2);
        CHECK.is("11 it translates no more", loom.captured(0), 1);
        NetLoom inside = Nets.talkedLine(3, 8, 1);
        inside.translator(1, 0, 0);
        inside.plain(0, 12, 7, 2);
        inside.run(3);
        CHECK.is("11 not if the target is inside, too", inside.ofNode(1, 9), 0);
    }

    private static void notesOfTranslation() {
        NetLoom loom = Nets.talkedLine(4, 8, 1);
        loom.translator(2, 10, 5);
        loom.plain(0, 13, 7, 0);
        loom.run(3);
        CHECK.is("11 noted in tick 2", loom.ofNode(2, 9), 1);
        loom.plain(1, 13, 7, 0);
        loom.run(1);
        CHECK.is("11 in place of the older one", loom.ofNode(2, 9), 1);
        loom.plain(3, 12, 7, 0);
        loom.run(3);
        CHECK.is("11 it is the later one's", loom.ofNode(1, 4), 7);
        CHECK.is("11 and not the other's", loom.ofNode(0, 3), 0);
        loom.run(17);
        CHECK.is("11 used in tick 6, there in 24", loom.ofNode(2, 9), 1);
        loom.run(1);
        CHECK.is("11 there in 25", loom.ofNode(2, 9), 1);
        loom.run(1);
        CHECK.is("11 gone in 26", loom.ofNode(2, 9), 0);
        NetLoom acks = Nets.talkedLine(3, 8, 1);
        acks.translator(1, 10, 6);
        acks.stream(0, 12, 4);
        acks.write(0, 5);
        acks.run(8);
        CHECK.is("11 data is answered by an ack through it", acks.ofStream(0, 3), 1);
        acks.stream(2, 10, 4);
        acks.write(1, 6);
        acks.run(8);
        CHECK.is("11 the ack of an inside one comes from the translator", acks.ofStream(1, 3), 1);
        CHECK.is("11 two notes", acks.ofNode(1, 9), 2);
    }

    private static void capture() {
        NetLoom loom = Nets.talkedLine(3, 2, 1);
        CHECK.refuses("12 no node", loom, INDEX, () -> loom.capture(3, 64, 0, 0, 0, 0));
        CHECK.refuses("12 source", loom, ARGUMENT, () -> loom.capture(0, -1, 0, 0, 0, 0));
        CHECK.refuses("12 source bits", loom, ARGUMENT, () -> loom.capture(0, 0, -1, 0, 0, 0));
        CHECK.refuses("12 target", loom, ARGUMENT, () -> loom.capture(0, 0, 0, 64, 0, 0));
        CHECK.refuses("12 target bits", loom, ARGUMENT, () -> loom.capture(0, 0, 0, 0, 7, 0));
        CHECK.refuses("12 kind", loom, ARGUMENT, () -> loom.capture(0, 0, 0, 0, 0, 4));
        CHECK.is("12 first", loom.capture(1, 10, 6, 12, 6, 0), 0);
        CHECK.is("12 second", loom.capture(1, 0, 0, 0, 0, -1), 1);
        CHECK.is("12 third", loom.capture(2, 0, 0, 0, 0, 1), 2);
        CHECK.refuses("12 a fourth", loom, STATE, () -> loom.capture(0, 0, 0, 0, 0, 0));
        CHECK.refuses("12 a fourth of kind -2", loom, ARGUMENT, () -> loom.capture(0, 0, 0, 0, 0, -2));
        loom.filter(1, 0, 0, 0, 0, -1, false, false);
        loom.plain(0, 12, 1, 3);
        loom.plain(2, 10, 1, 1);
        loom.plain(1, 12, 1, 1);
        CHECK.is("12 all are dropped", loom.run(4), 3);
        CHECK.is("12 each fragment counts, dropped or not", loom.captured(0), 2);
        CHECK.is("12 any kind", loom.captured(1), 3);
        CHECK.is("12 another kind", loom.captured(2), 0);
    }
}
