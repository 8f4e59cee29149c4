/** Promises 18 to 27: what one asks. */
public final class AskedTest {
    private static final Class<?> INDEX = IndexOutOfBoundsException.class;
    private static final Class<?> ARGUMENT = IllegalArgumentException.class;
    private static final Check CHECK = new Check("AskedTest");

    public static void main(String[] args) {
        ofNode();
        routeTo();
        ofRoute();
        ofLink();
        ofStream();
        letter();
        lost();
        captured();
        many();
        meanTime();
        CHECK.end();
    }

    private static void ofNode() {
        NetLoom loom = Nets.talkedLine(3, 2, 1);
        CHECK.refuses("18 no node", loom, INDEX, () -> loom.ofNode(3, 11));
        CHECK.refuses("18 node -1", loom, INDEX, () -> loom.ofNode(-1, 0));
        CHECK.refuses("18 what 11", loom, ARGUMENT, () -> loom.ofNode(0, 11));
        CHECK.refuses("18 what -1", loom, ARGUMENT, () -> loom.ofNode(0, -1));
        int[] none = {12, 2, 2, 0, -1, 0, -1, -1, 0, 0, 0};
        for (int what = 0; what <= 10; what++) {
            CHECK.is("18 ofNode(2, " + what + ") at first", loom.ofNode(2, what), none[what]);
        }
        loom.route(2, 40, 6, 1, 1);
        loom.filter(2, 0, 0, 0, 0, 3, false, true);
        loom.translator(2, 11, 6);
        loom.plain(0, 12, 7, 1);
        loom.plain(0, 12, 8, 3);
        loom.plain(2, 50, 1, 1);
        loom.plain(2, 51, 1, 1);
        loom.run(4);
        int[] some = {12, 3, 2, 1, 7, 2, 0, 4, 1, 0, 1};
        for (int what = 0; what <= 10; what++) {
            CHECK.is("18 ofNode(2, " + what + ")", loom.ofNode(2, what), some[what]);
        }
    }

    private static void routeTo() {
        NetLoom loom = Nets.talkedLine(3, 8, 1);
        CHECK.refuses("19 no node", loom, INDEX, () -> loom.routeTo(3, 64));
        CHECK.refuses("19 address 64", loom, ARGUMENT, () -> loom.routeTo(0, 64));
        CHECK.refuses("19 address -1", loom, ARGUMENT, () -> loom.routeTo(0, -1));
        CHECK.is("19 to 12", loom.routeTo(0, 12), 1);
        CHECK.is("19 to 63", loom.routeTo(0, 63), -1);
        loom.route(0, 0, 0, 0, 9);
        CHECK.is("19 to 63 by bits 0", loom.routeTo(0, 63), 2);
    }

    private static void ofRoute() {
        NetLoom loom = Nets.line(2, 8, 1);
        loom.route(1, 63, 2, 0, 9);
        loom.talk();
        CHECK.refuses("20 no node", loom, INDEX, () -> loom.ofRoute(2, 0, 5));
        CHECK.refuses("20 no route", loom, INDEX, () -> loom.ofRoute(1, 2, 5));
        CHECK.refuses("20 route -1", loom, INDEX, () -> loom.ofRoute(1, -1, 0));
        CHECK.refuses("20 what 5", loom, ARGUMENT, () -> loom.ofRoute(1, 0, 5));
        CHECK.refuses("20 what -1", loom, ARGUMENT, () -> loom.ofRoute(1, 0, -1));
        int[] told = {63, 2, 0, 9, 0};
        int[] learned = {10, 6, 0, 1, 1};
        for (int what = 0; what <= 4; what++) {
            CHECK.is("20 of a told one", loom.ofRoute(1, 0, what), told[what]);
            CHECK.is("20 of a learned one", loom.ofRoute(1, 1, what), learned[what]);
        }
    }

    private static void ofLink() {
        NetLoom loom = Nets.talkedLine(3, 3, 2);
        CHECK.refuses("21 no link", loom, INDEX, () -> loom.ofLink(2, true, 7));
        CHECK.refuses("21 link -1", loom, INDEX, () -> loom.ofLink(-1, true, 0));
        CHECK.refuses("21 what 7", loom, ARGUMENT, () -> loom.ofLink(0, true, 7));
        CHECK.refuses("21 what -1", loom, ARGUMENT, () -> loom.ofLink(0, true, -1));
        int[] none = {2, 0, 0, 0, -1, 0, 1};
        for (int what = 0; what <= 6; what++) {
            CHECK.is("21 back at first", loom.ofLink(1, true, what), none[what]);
        }
        loom.plain(2, 10, 1, 8);
        loom.plain(2, 11, 1, 2);
        loom.mark(1, true, 2, true);
        loom.run(2);
        int[] some = {2, 2, 3, 2, 0, 4, 1};
        for (int what = 0; what <= 6; what++) {
            CHECK.is("21 back, what " + what, loom.ofLink(1, true, what), some[what]);
        }
        CHECK.is("21 there is another direction", loom.ofLink(1, false, 3), 0);
        CHECK.is("21 from the first end", loom.ofLink(1, false, 0), 1);
    }

    private static void ofStream() {
        NetLoom loom = Nets.talkedLine(2, 8, 1);
        loom.stream(0, 11, 10);
        CHECK.refuses("22 no stream", loom, INDEX, () -> loom.ofStream(1, 10));
        CHECK.refuses("22 what 10", loom, ARGUMENT, () -> loom.ofStream(0, 10));
        CHECK.refuses("22 what -1", loom, ARGUMENT, () -> loom.ofStream(0, -1));
        int[] none = {0, 0, 0, 0, 10, 0, 0, -1, 0, 0};
        for (int what = 0; what <= 9; what++) {
            CHECK.is("22 at first, what " + what, loom.ofStream(0, what), none[what]);
        }
        Nets.write(loom, 0, 12);
        loom.mark(0, false, 2, false);
        loom.run(4);
        int[] some = {0, 12, 12, 4, 10, 4, 2, 9, 0, 0};
        loom.end(0);
        some[0] = 1;
        for (int what = 0; what <= 9; what++) {
            CHECK.is("22 what " + what, loom.ofStream(0, what), some[what]);
        }
    }

    private static void letter() {
        NetLoom loom = Nets.talkedLine(2, 2, 1);
        loom.stream(0, 11, 4);
        loom.write(0, 9);
        loom.write(0, 0);
        loom.write(0, 5);
        CHECK.refuses("23 no stream", loom, INDEX, () -> loom.letter(1, 0));
        CHECK.refuses("23 not got", loom, INDEX, () -> loom.letter(0, 0));
        loom.run(3);
        CHECK.is("23 first", loom.letter(0, 0), 9);
        CHECK.is("23 second", loom.letter(0, 1), 0);
        CHECK.is("23 third", loom.letter(0, 2), 5);
        CHECK.refuses("23 a fourth", loom, INDEX, () -> loom.letter(0, 3));
        CHECK.refuses("23 -1", loom, INDEX, () -> loom.letter(0, -1));
    }

    private static void lost() {
        NetLoom loom = Nets.line(2, 2, 3);
        CHECK.refuses("24 loss 7", loom, ARGUMENT, () -> loom.lost(7));
        CHECK.refuses("24 loss -1", loom, ARGUMENT, () -> loom.lost(-1));
        loom.route(0, 40, 3, 0, 1);
        loom.route(1, 44, 6, 0, 1);
        loom.plain(1, 40, 1, 1);
        loom.talk();
        loom.plain(0, 44, 1, 1);
        loom.run(20);
        CHECK.is("24 a loss of each kind: 0", loom.lost(0), 1);
        CHECK.is("24 4", loom.lost(4), 1);
        loom.filter(1, 10, 6, 0, 0, -1, false, false);
        loom.plain(0, 11, 1, 8);
        loom.plain(0, 11, 1, 3);
        loom.mark(0, false, 2, false);
        loom.run(5);
        loom.unfilter(1);
        loom.up(0, false);
        loom.up(0, true);
        CHECK.is("24 1", loom.lost(1), 1);
        CHECK.is("24 2", loom.lost(2), 1);
        CHECK.is("24 3", loom.lost(3), 3);
        CHECK.is("24 6", loom.lost(6), 1);
        loom.plain(0, 11, 1, 8);
        loom.up(0, true);
        loom.run(5);
        loom.up(0, false);
        loom.run(12);
        CHECK.is("24 5, of whole ones", loom.lost(5), 1);
    }

    private static void captured() {
        NetLoom loom = Nets.talkedLine(2, 8, 1);
        CHECK.refuses("25 none", loom, INDEX, () -> loom.captured(0));
        loom.capture(1, 10, 6, 0, 0, 0);
        CHECK.refuses("25 -1", loom, INDEX, () -> loom.captured(-1));
        CHECK.is("25 zero", loom.captured(0), 0);
        loom.mark(0, false, 1, true);
        loom.plain(0, 11, 1, 1);
        loom.plain(1, 11, 1, 1);
        loom.run(2);
        CHECK.is("25 twice over the link, not what was made there", loom.captured(0), 2);
        loom.sureIn(loom.stream(0, 11, 4), 5);
        CHECK.refuses("25 no second", loom, INDEX, () -> loom.captured(1));
    }

    private static void many() {
        NetLoom loom = Nets.talkedLine(3, 2, 2);
        CHECK.refuses("26 what 10", loom, ARGUMENT, () -> loom.many(10));
        CHECK.refuses("26 what -1", loom, ARGUMENT, () -> loom.many(-1));
        loom.stream(0, 11, 4);
        loom.stream(2, 11, 4);
        loom.capture(0, 0, 0, 0, 0, -1);
        loom.write(0, 1);
        loom.write(1, 1);
        loom.write(1, 1);
        loom.run(3);
        loom.plain(1, 12, 1, 7);
        loom.run(3);
        loom.plain(0, 11, 1, 6);
        int[] due = {3, 2, 2, 6, 6, 4, 2, 1, 1, 3};
        for (int what = 0; what <= 9; what++) {
            CHECK.is("26 what " + what, loom.many(what), due[what]);
        }
    }

    private static void meanTime() {
        NetLoom loom = Nets.talkedLine(3, 8, 1);
        CHECK.isMean("27 without any", loom.meanTime(), 0.0);
        loom.plain(0, 10, 1, 1);
        CHECK.isMean("27 at once", loom.meanTime(), 0.0);
        loom.plain(0, 11, 1, 1);
        loom.run(5);
        CHECK.isMean("27 0 and 2", loom.meanTime(), 1.0);
        loom.plain(0, 12, 1, 1);
        loom.stream(0, 11, 4);
        loom.write(0, 1);
        loom.run(5);
        CHECK.isMean("27 0, 2 and 3, no data", loom.meanTime(), 5.0 / 3.0);
    }
}
