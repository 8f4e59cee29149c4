/** Promises 28 to 31: what would be, and that asking for it changes nothing. */
public final class WouldBeTest {
    private static final Class<?> INDEX = IndexOutOfBoundsException.class;
    private static final Class<?> ARGUMENT = IllegalArgumentException.class;
    private static final Check CHECK = new Check("WouldBeTest");

    public static void main(String[] args) {
        trace();
        traceOfAge();
        sureIn();
        lostWithout();
        digest();
        nothingIsChanged();
        eachBeginsAnew();
        idsGoOn();
        longLife();
        CHECK.end();
    }

    private static void trace() {
        NetLoom loom = Nets.talkedLine(3, 2, 1);
        CHECK.refuses("28 no node", loom, INDEX, () -> loom.trace(3, 64, -1));
        CHECK.refuses("28 address 64", loom, ARGUMENT, () -> loom.trace(0, 64, 0));
        CHECK.refuses("28 address -1", loom, ARGUMENT, () -> loom.trace(0, -1, 0));
        CHECK.refuses("28 k -1", loom, ARGUMENT, () -> loom.trace(0, 12, -1));
        loom.filter(1, 0, 0, 0, 0, -1, false, false);
        loom.mark(0, false, 1, false);
        loom.translator(1, 10, 6);
        int[] due = {0, 1, 2, -1, -1};
        for (int k = 0; k < due.length; k++) {
            CHECK.is("28 k " + k, loom.trace(0, 12, k), due[k]);
        }
        CHECK.is("28 itself", loom.trace(1, 11, 0), 1);
        CHECK.is("28 it is there", loom.trace(1, 11, 1), -1);
        CHECK.is("28 no route", loom.trace(0, 40, 0), 0);
        CHECK.is("28 no further", loom.trace(0, 40, 1), -1);
        loom.route(0, 10, 6, 0, 1);
        CHECK.is("28 there, though it has a route", loom.trace(0, 10, 1), -1);
        loom.up(1, false);
        CHECK.is("28 as routes are", loom.trace(0, 12, 1), 1);
        CHECK.is("28 only over what is up", loom.trace(0, 12, 2), -1);
    }

    private static void traceOfAge() {
        NetLoom loom = Nets.line(2, 8, 1);
        loom.route(0, 40, 6, 0, 1);
        loom.route(1, 40, 6, 0, 1);
        for (int k = 0; k <= 6; k++) {
            CHECK.is("28 to and fro, k " + k, loom.trace(1, 40, k), (k + 1) % 2);
        }
        CHECK.is("28 its age is 0", loom.trace(1, 40, 7), -1);
        CHECK.is("28 far", loom.trace(1, 40, Integer.MAX_VALUE), -1);
    }

    private static void sureIn() {
        NetLoom loom = Nets.talkedLine(2, 8, 2);
        loom.stream(0, 11, 8);
        CHECK.refuses("29 no stream", loom, INDEX, () -> loom.sureIn(1, 0));
        CHECK.refuses("29 ticks 0", loom, ARGUMENT, () -> loom.sureIn(0, 0));
        CHECK.refuses("29 ticks 61", loom, ARGUMENT, () -> loom.sureIn(0, 61));
        Nets.write(loom, 0, 6);
        CHECK.is("29 in 4", loom.sureIn(0, 4), 0);
        CHECK.is("29 in 5", loom.sureIn(0, 5), 4);
        CHECK.is("29 in 6", loom.sureIn(0, 6), 6);
        CHECK.is("29 none is sure now", loom.ofStream(0, 3), 0);
        CHECK.is("29 it is not later now", loom.many(3), 0);
        loom.run(5);
        CHECK.is("29 so it is", loom.ofStream(0, 3), 4);
    }

    private static void lostWithout() {
        NetLoom loom = Nets.talkedLine(2, 2, 3);
        CHECK.refuses("30 no link", loom, INDEX, () -> loom.lostWithout(1, 0));
        CHECK.refuses("30 ticks 0", loom, ARGUMENT, () -> loom.lostWithout(0, 0));
        CHECK.refuses("30 ticks 61", loom, ARGUMENT, () -> loom.lostWithout(0, 61));
        CHECK.is("30 none", loom.lostWithout(0, 60), 0);
        loom.plain(0, 11, 1, 6);
        loom.stream(1, 10, 4);
        loom.run(2);
        loom.write(0, 3);
        CHECK.is("30 those on the way", loom.lostWithout(0, 1), 3);
        CHECK.is("30 and those without a route", loom.lostWithout(0, 7), 4);
        CHECK.is("30 it is up", loom.ofLink(0, false, 6), 1);
        CHECK.is("30 none is lost now", loom.lost(3), 0);
        CHECK.is("30 with the link none", loom.run(10), 0);
        loom.plain(0, 11, 1, 1);
        loom.run(1);
        loom.up(0, false);
        CHECK.is("30 it is not up now", loom.lostWithout(0, 5), 0);
    }

    /** The digest by the words of the document, from the other answers. */
    private static long digestOf(NetLoom loom) {
        long d = 9612;
        for (long v : DigestValues.of(loom)) {
            d = d * 31 + v;
        }
        return d;
    }

    /** A network in which there is something of everything. */
    private static NetLoom busy() {
        NetLoom loom = Nets.talkedLine(6, 3, 2);
        loom.link(5, 0, 2, 1);
        loom.link(1, 4, 8, 3);
        loom.talk();
        loom.capture(1, 0, 0, 0, 0, -1);
        loom.capture(2, 10, 4, 0, 0, 1);
        loom.capture(3, 0, 0, 0, 0, 0);
        loom.translator(1, 10, 6);
        loom.filter(3, 0, 0, 0, 0, -1, true, true);
        loom.filter(3, 14, 6, 0, 0, 0, false, false);
        for (int stream = 0; stream < 4; stream++) {
            loom.stream(stream, 10 + (stream + 3) % 6, 5 + stream);
            Nets.write(loom, stream, 12 + stream);
        }
        for (int i = 0; i < 6; i++) {
            loom.plain(i, 10 + (i + 2) % 6, i, 8 - i);
            loom.mark(i, i % 2 == 0, 2 + i, i % 3 == 0);
            loom.run(2);
        }
        return loom;
    }

    private static void digest() {
        CHECK.is("31 of a new one", new NetLoom().digest(), digestOf(new NetLoom()));
        NetLoom loom = busy();
        for (int i = 0; i < 20; i++) {
            CHECK.is("31 the same twice", loom.digest(), loom.digest());
            CHECK.is("31 by its words", loom.digest(), digestOf(loom));
            loom.run(3);
        }
    }

    /** One object is asked all the time what would be, another one with the same calls is not. */
    private static void nothingIsChanged() {
        NetLoom asked = busy();
        NetLoom left = busy();
        for (int i = 0; i < 30; i++) {
            int sure = asked.sureIn(i % 4, 1 + i);
            NetLoom other = busy();
            for (int k = 0; k < i; k++) {
                other.run(1 + k % 3);
            }
            other.run(1 + i);
            CHECK.is("29 as it comes", sure, other.ofStream(i % 4, 3));
            int lost = asked.lostWithout(i % 7, 1 + i);
            NetLoom without = busy();
            for (int k = 0; k < i; k++) {
                without.run(1 + k % 3);
            }
            int now = without.up(i % 7, false);
            CHECK.is("30 as it comes", lost, now + without.run(1 + i));
            CHECK.is("29, 30 nothing is changed", asked.run(1 + i % 3), left.run(1 + i % 3));
            CHECK.is("29, 30 nothing at all", asked.digest(), left.digest());
        }
    }

    /** What came to be in one that would be is not there in the next. */
    private static void eachBeginsAnew() {
        NetLoom loom = Nets.talkedLine(3, 8, 1);
        loom.link(0, 2, 8, 1);
        loom.translator(1, 10, 6);
        loom.plain(0, 12, 7, 0);
        CHECK.is("30 it would be translated", loom.lostWithout(2, 4), 0);
        loom.mark(0, false, 1, false);
        CHECK.is("30 but it is lost", loom.run(3), 1);
        loom.plain(2, 11, 7, 0);
        CHECK.is("30 so none is translated back", loom.lostWithout(0, 5), 0);
    }

    private static void idsGoOn() {
        NetLoom loom = Nets.talkedLine(2, 2, 1);
        loom.mark(0, false, 1, false);
        loom.mark(0, false, 2, false);
        loom.mark(0, false, 4, false);
        loom.plain(0, 11, 1, 8);
        loom.run(5);
        CHECK.is("29 a fragment is kept", loom.many(7), 1);
        loom.stream(0, 11, 4);
        Nets.write(loom, 0, 4);
        CHECK.is("29 it is of another packet than those to come", loom.sureIn(0, 5), 4);
    }

    /** 512 calls, as long as they may be. */
    private static void longLife() {
        NetLoom loom = Nets.talkedLine(2, 2, 3);
        for (int i = 0; i < 4; i++) {
            loom.stream(i % 2, 11 - i % 2, 12);
            Nets.write(loom, i, 30);
        }
        for (int i = 0; i < 200; i++) {
            loom.mark(0, i % 2 == 0, 1 + i % 20, true);
            loom.run(1);
        }
        for (int i = 0; i < 170; i++) {
            loom.run(60);
        }
        CHECK.is("now", loom.many(3), 200 + 170 * 60);
        CHECK.is("all letters of all streams", loom.many(9), 120);
    }
}
