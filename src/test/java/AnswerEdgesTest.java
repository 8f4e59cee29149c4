import java.math.BigInteger;

/** Promises 18 to 31: sums over all, what is empty, what would be of each kind of state, and how digest wraps. */
public final class AnswerEdgesTest {
    private static final Check CHECK = new Check("AnswerEdgesTest");

    public static void main(String[] args) {
        emptyNet();
        nodeAlone();
        linkAlone();
        rowsAndWaysOfAll();
        fragmentsOfAll();
        lettersOfAll();
        meanNotRounded();
        traceToItself();
        traceOfSix();
        traceOfEachAddress();
        sureInOneAndSixty();
        sureAsItComes();
        sureOfTheBroken();
        sureByItsAlarm();
        lostInOneAndSixty();
        lostByThat();
        lostWithoutAWay();
        wouldBeFiltered();
        wouldBeKnown();
        wouldBeTranslated();
        wouldBeTranslatedBack();
        wouldBeMarked();
        wouldBeWhole();
        wouldGoByToldOnes();
        wouldBeOld();
        digestOfAFew();
        digestOfAll();
        digestByMuch();
        CHECK.end();
    }

    // ---- what is empty

    private static void emptyNet() {
        NetLoom loom = new NetLoom();
        for (int i = 0; i < 2; i++) {
            for (int what = 0; what <= 9; what++) {
                CHECK.is("26 many of " + what, loom.many(what), what == 3 ? 60 * i : 0);
            }
            for (int loss = 0; loss <= 6; loss++) {
                CHECK.is("24 lost by " + loss, loom.lost(loss), 0);
            }
            CHECK.isMean("27 without any", loom.meanTime(), 0.0);
            CHECK.is("17 nothing is lost", loom.run(60), 0);
        }
    }

    private static void nodeAlone() {
        NetLoom loom = new NetLoom();
        loom.node(63);
        int[] due = {63, 0, 0, 0, -1, 0, -1, -1, 0, 0, 0};
        for (int what = 0; what <= 10; what++) {
            CHECK.is("18 what " + what, loom.ofNode(0, what), due[what]);
        }
        for (int address = 0; address <= 63; address++) {
            CHECK.is("19 no route", loom.routeTo(0, address), -1);
            CHECK.is("28 itself", loom.trace(0, address, 0), 0);
            CHECK.is("28 no further", loom.trace(0, address, 1), -1);
        }
        CHECK.refuses("7 no route", loom, IndexOutOfBoundsException.class, () -> loom.unroute(0, 0) ? 1 : 0);
        CHECK.refuses("20 no route", loom, IndexOutOfBoundsException.class, () -> loom.ofRoute(0, 0, 0));
        CHECK.is("13 to itself", loom.plain(0, 63, 3, 8), 0);
        CHECK.is("18 got", loom.ofNode(0, 3), 1);
    }

    private static void linkAlone() {
        NetLoom loom = Nets.line(2, 8, 3);
        for (int back = 0; back <= 1; back++) {
            int[] due = {back, 0, 0, 0, -1, 0, 1};
            for (int what = 0; what <= 6; what++) {
                CHECK.is("21 what " + what, loom.ofLink(0, back == 1, what), due[what]);
            }
        }
        CHECK.is("5 none left", loom.mark(0, false, 20, true) + loom.mark(0, true, 20, true), 0);
        CHECK.is("4 none on the way", loom.up(0, false), 0);
        CHECK.is("21 it is down", loom.ofLink(0, false, 6) + loom.ofLink(0, true, 6), 0);
        CHECK.is("30 none", loom.lostWithout(0, 60), 0);
    }

    // ---- sums

    private static void rowsAndWaysOfAll() {
        NetLoom loom = Nets.talkedLine(4, 8, 2);
        for (int link = 0; link < 3; link++) {
            for (int i = 0; i <= link; i++) {
                loom.plain(link, 11 + link, 1, 1 + i);
            }
            loom.plain(link + 1, 10 + link, 2, 3);
            loom.plain(link + 1, 10 + link, 2, 4);
        }
        CHECK.is("26 in all rows, both ways", loom.many(5), 1 + 2 + 3 + 6);
        CHECK.is("26 none on the way", loom.many(6), 0);
        CHECK.is("21 letters of a row", loom.ofLink(2, false, 5), 6);
        CHECK.is("21 letters of a row, back", loom.ofLink(2, true, 5), 7);
        loom.run(1);
        CHECK.is("26 in all rows", loom.many(5), 6);
        CHECK.is("26 on the way, over all links and both ways", loom.many(6), 6);
        CHECK.is("21 letters behind the first one", loom.ofLink(2, false, 5), 5);
        CHECK.is("21 the id of the first one", loom.ofLink(2, false, 4), 8);
        CHECK.is("21 that of the other way", loom.ofLink(0, true, 4), 2);
    }

    private static void fragmentsOfAll() {
        NetLoom loom = Nets.talkedLine(3, 2, 1);
        loom.mark(0, false, 4, false);
        loom.mark(1, true, 3, false);
        loom.mark(1, true, 6, false);
        loom.mark(1, false, 1, true);
        loom.mark(1, false, 2, false);
        loom.plain(0, 11, 1, 8);
        loom.plain(2, 11, 2, 6);
        loom.plain(1, 12, 3, 4);
        loom.run(4);
        CHECK.is("18 two wholes at node 1", loom.ofNode(1, 8), 2);
        CHECK.is("18 one at node 2", loom.ofNode(2, 8), 1);
        CHECK.is("26 three, two, and one that came twice", loom.many(7), 3 + 2 + 2);
        loom.plain(1, 10, 4, 8);
        loom.run(2);
        CHECK.is("18 one at node 0", loom.ofNode(0, 8), 1);
        CHECK.is("26 and one of it", loom.many(7), 3 + 2 + 2 + 1);
    }

    private static void lettersOfAll() {
        NetLoom loom = Nets.talkedLine(2, 8, 1);
        for (int i = 0; i < 4; i++) {
            loom.stream(i % 2, 11 - i % 2, 12);
            Nets.write(loom, i, 30);
        }
        CHECK.is("26 none is got", loom.many(9), 0);
        loom.run(2);
        CHECK.is("26 four of the first, four of the second", loom.many(9), 8);
        loom.run(60);
        CHECK.is("26 all", loom.many(9), 120);
        NetLoom gap = Nets.talkedLine(2, 8, 1);
        gap.stream(0, 11, 12);
        Nets.write(gap, 0, 8);
        gap.mark(0, false, 1, false);
        gap.run(4);
        CHECK.is("26 those beyond are not got", gap.many(9) + 10 * gap.ofStream(0, 6), 40);
    }

    private static void meanNotRounded() {
        NetLoom loom = Nets.talkedLine(4, 8, 1);
        loom.plain(0, 13, 1, 1);
        loom.run(3);
        CHECK.isMean("27 none was got", loom.meanTime(), 0.0);
        loom.run(1);
        CHECK.isMean("27 one", loom.meanTime(), 4.0);
        loom.plain(0, 11, 1, 1);
        loom.plain(0, 11, 1, 1);
        loom.run(3);
        CHECK.isMean("27 4, 2 and 3", loom.meanTime(), 3.0);
        loom.plain(3, 13, 1, 1);
        CHECK.isMean("27 4, 2, 3 and 0", loom.meanTime(), 2.25);
        loom.mark(0, false, 1, true);
        loom.plain(0, 11, 1, 1);
        loom.run(2);
        CHECK.isMean("27 one that came twice, twice", loom.meanTime(), 13.0 / 6.0);
        loom.plain(0, 40, 1, 1);
        CHECK.isMean("27 notes do not count", loom.meanTime(), 13.0 / 6.0);
    }

    // ---- trace

    private static void traceToItself() {
        NetLoom loom = Nets.line(2, 8, 1);
        loom.route(0, 0, 0, 0, 1);
        loom.route(1, 0, 0, 0, 1);
        CHECK.is("28 itself", loom.trace(0, 10, 0), 0);
        CHECK.is("28 it is there", loom.trace(0, 10, 1), -1);
        CHECK.is("28 there in one", loom.trace(1, 10, 1), 0);
        CHECK.is("28 no further", loom.trace(1, 10, 2), -1);
    }

    private static void traceOfSix() {
        NetLoom loom = Nets.talkedLine(6, 2, 3);
        for (int k = 0; k <= 7; k++) {
            CHECK.is("28 from end to end, k " + k, loom.trace(0, 15, k), k <= 5 ? k : -1);
            CHECK.is("28 and back, k " + k, loom.trace(5, 10, k), k <= 5 ? 5 - k : -1);
        }
        loom.link(5, 0, 8, 1);
        loom.route(5, 40, 6, 5, 1);
        for (int node = 0; node < 5; node++) {
            loom.route(node, 40, 6, node, 1);
        }
        for (int k = 0; k <= 7; k++) {
            CHECK.is("28 round and round, k " + k, loom.trace(2, 40, k), k <= 6 ? (2 + k) % 6 : -1);
        }
        loom.up(5, false);
        CHECK.is("28 to the link that is down", loom.trace(2, 40, 3), 5);
        CHECK.is("28 not over it", loom.trace(2, 40, 4), -1);
    }

    private static void traceOfEachAddress() {
        NetLoom loom = Nets.line(2, 8, 1);
        loom.route(0, 32, 1, 0, 1);
        for (int address = 0; address <= 63; address++) {
            CHECK.is("28 by prefixes, to " + address, loom.trace(0, address, 1), address >= 32 ? 1 : -1);
        }
    }

    // ---- what would be

    private static void sureInOneAndSixty() {
        NetLoom loom = Nets.talkedLine(2, 8, 1);
        loom.stream(0, 11, 4);
        Nets.write(loom, 0, 30);
        CHECK.is("29 in 1", loom.sureIn(0, 1), 0);
        CHECK.is("29 in 2", loom.sureIn(0, 2), 0);
        CHECK.is("29 in 3", loom.sureIn(0, 3), 4);
        CHECK.is("29 in 16", loom.sureIn(0, 16), 28);
        CHECK.is("29 in 17", loom.sureIn(0, 17), 30);
        CHECK.is("29 in 60", loom.sureIn(0, 60), 30);
        loom.run(2);
        CHECK.is("29 one later", loom.sureIn(0, 1), 4);
    }

    /** Over links that lose and double, and of four streams: what sureIn tells comes so. */
    private static void sureAsItComes() {
        for (int ticks = 1; ticks <= 60; ticks += 7) {
            NetLoom loom = Nets.some();
            Nets.write(loom, 1, 9);
            int first = loom.sureIn(0, ticks);
            int second = loom.sureIn(1, ticks);
            loom.run(ticks);
            CHECK.is("29 of stream 0 in " + ticks, first, loom.ofStream(0, 3));
            CHECK.is("29 of stream 1 in " + ticks, second, loom.ofStream(1, 3));
        }
    }

    private static void sureOfTheBroken() {
        NetLoom loom = Nets.talkedLine(2, 8, 1);
        loom.stream(0, 11, 4);
        Nets.write(loom, 0, 9);
        loom.filter(0, 0, 0, 0, 0, 2, false, false);
        loom.run(42);
        loom.unfilter(0);
        CHECK.is("29 it would be broken", loom.sureIn(0, 60), 0);
        loom.run(1);
        CHECK.is("22 it is", loom.ofStream(0, 0), 3);
        CHECK.is("29 it stays so", loom.sureIn(0, 60), 0);
        loom.up(0, false);
        CHECK.is("30 it sends nothing", loom.lostWithout(0, 60), 0);
    }

    /** The alarm, the try and the window are those that are. */
    private static void sureByItsAlarm() {
        NetLoom loom = Nets.talkedLine(2, 8, 1);
        loom.stream(0, 11, 12);
        Nets.write(loom, 0, 12);
        for (int many = 1; many <= 4; many++) {
            loom.mark(0, false, many, false);
        }
        loom.run(9);
        CHECK.is("29 the second try in 19", loom.sureIn(0, 11), 0);
        CHECK.is("29 sure in 21", loom.sureIn(0, 12), 4);
        CHECK.is("29 the next ones in 27 and 35", loom.sureIn(0, 19) + 100 * loom.sureIn(0, 20), 804);
        CHECK.is("29 all in 37", loom.sureIn(0, 27) + 100 * loom.sureIn(0, 28), 1208);
    }

    private static void lostInOneAndSixty() {
        NetLoom loom = Nets.line(2, 8, 1);
        loom.route(0, 11, 6, 0, 1);
        loom.link(0, 1, 8, 3);
        loom.route(0, 11, 6, 1, 2);
        loom.stream(0, 11, 4);
        loom.write(0, 1);
        CHECK.is("30 nothing in 1, by the other link", loom.lostWithout(0, 1), 0);
        CHECK.is("30 each ack that has no route: in 4", loom.lostWithout(0, 3) + 10 * loom.lostWithout(0, 4), 10);
        CHECK.is("30 in 10, in 22", loom.lostWithout(0, 21) + 10 * loom.lostWithout(0, 22), 32);
        CHECK.is("30 no more in 60", loom.lostWithout(0, 60), 3);
        CHECK.is("30 with the other one as many, but earlier", loom.lostWithout(1, 2) + 10 * loom.lostWithout(1, 60), 31);
    }

    private static void lostByThat() {
        NetLoom loom = Nets.talkedLine(2, 8, 3);
        for (int i = 0; i < 3; i++) {
            loom.plain(0, 11, i, 1);
            loom.plain(1, 10, i, 1);
        }
        CHECK.is("30 rows stay", loom.lostWithout(0, 60), 0);
        for (int i = 1; i <= 3; i++) {
            loom.run(1);
            CHECK.is("30 those on the way, at once", loom.lostWithout(0, 1), 2 * i);
            CHECK.is("30 and no more in 60", loom.lostWithout(0, 60), 2 * i);
        }
        CHECK.is("24 none is lost", loom.lost(3), 0);
        CHECK.is("26 all are on the way", loom.many(6), 6);
        loom.up(0, false);
        CHECK.is("30 it is not up now", loom.lostWithout(0, 60), 0);
    }

    private static void lostWithoutAWay() {
        NetLoom loom = Nets.talkedLine(3, 8, 1);
        loom.plain(0, 12, 1, 1);
        loom.run(1);
        CHECK.is("30 without link 1: at node 1, of which the note comes", loom.lostWithout(1, 60), 1);
        CHECK.is("30 without link 0: on the way", loom.lostWithout(0, 60), 1);
        loom.run(1);
        CHECK.is("30 without link 0: it is over that", loom.lostWithout(0, 60), 0);
        CHECK.is("30 without link 1: on the way there", loom.lostWithout(1, 60), 1);
        CHECK.is("30 with both it comes", loom.run(2), 0);
    }

    /** A triangle in which node 2 is beside the line from 0 to 1: to be without link 1 or 2 changes nothing on it. */
    private static NetLoom triangle() {
        NetLoom loom = Nets.talkedLine(2, 4, 1);
        loom.node(12);
        loom.link(1, 2, 4, 1);
        loom.link(2, 0, 4, 1);
        return loom;
    }

    private static void wouldBeFiltered() {
        NetLoom loom = triangle();
        for (int i = 0; i < 3; i++) {
            loom.filter(1, 20 + i, 6, 0, 0, -1, false, true);
        }
        loom.filter(1, 10, 6, 11, 6, 0, false, false);
        loom.plain(0, 11, 1, 1);
        CHECK.is("30 it would be dropped by the last filter", loom.lostWithout(1, 2), 1);
        loom.unfilter(1);
        CHECK.is("30 it would be let", loom.lostWithout(1, 2), 0);
        loom.filter(1, 10, 6, 11, 6, 0, false, false);
        CHECK.is("30 dropped by the first one", loom.lostWithout(1, 2), 1);
        CHECK.is("17 so it is", loom.run(2), 1);
    }

    private static void wouldBeKnown() {
        NetLoom loom = triangle();
        loom.filter(1, 10, 6, 0, 0, -1, true, true);
        loom.filter(1, 10, 6, 0, 0, -1, false, false);
        loom.plain(0, 11, 1, 1);
        CHECK.is("30 it would not be known", loom.lostWithout(1, 2), 1);
        loom.plain(1, 10, 1, 1);
        CHECK.is("30 it would be known", loom.lostWithout(1, 2), 0);
        CHECK.is("17 so it is", loom.run(2), 0);
    }

    private static void wouldBeTranslated() {
        NetLoom loom = Nets.talkedLine(3, 8, 1);
        loom.link(0, 2, 8, 1);
        loom.translator(1, 10, 6);
        loom.filter(2, 11, 6, 0, 0, 0, false, false);
        loom.plain(0, 12, 7, 1);
        CHECK.is("30 it would be from the translator", loom.lostWithout(2, 3), 1);
        loom.translator(1, 10, -1);
        CHECK.is("30 it would be from 10", loom.lostWithout(2, 3), 0);
        loom.translator(1, 10, 6);
        loom.run(3);
        loom.plain(2, 11, 7, 1);
        loom.filter(0, 12, 6, 10, 6, 0, false, false);
        CHECK.is("30 back it would be for 10", loom.lostWithout(2, 3), 1);
        CHECK.is("30 in 22 the note would be too old", loom.run(18) + loom.run(1) + loom.ofNode(1, 9), 1 + 1);
    }

    /** The note was made in 2; asked is in 19, as one to be translated back comes in 21. */
    private static void wouldBeTranslatedBack() {
        for (int dropped = 0; dropped <= 1; dropped++) {
            NetLoom loom = Nets.talkedLine(3, 8, 1);
            loom.link(0, 2, 8, 1);
            loom.translator(1, 10, 6);
            loom.plain(0, 12, 7, 1);
            loom.run(19);
            loom.plain(2, 11, 7, 1);
            if (dropped == 1) {
                loom.filter(0, 12, 6, 10, 6, 0, false, false);
            }
            CHECK.is("30 it would be for 10", loom.lostWithout(2, 3), dropped);
            CHECK.is("17 so it is", loom.run(3), dropped);
            CHECK.is("18 the note is used", loom.ofNode(1, 9), 1);
        }
    }

    private static void wouldBeMarked() {
        NetLoom loom = triangle();
        loom.mark(0, false, 2, false);
        loom.filter(1, 0, 0, 0, 0, -1, false, false);
        loom.mark(0, false, 1, true);
        loom.plain(0, 11, 1, 1);
        loom.plain(0, 11, 1, 1);
        CHECK.is("30 one in tick 2: doubled, and lost as told", loom.lostWithout(1, 1) + 10 * loom.lostWithout(1, 2), 30);
        loom.run(1);
        CHECK.is("30 the same, one tick later", loom.lostWithout(1, 1), 3);
        CHECK.is("17 so it is", loom.run(1), 3);
    }

    private static void wouldBeWhole() {
        NetLoom loom = triangle();
        loom.plain(0, 11, 1, 8);
        loom.run(2);
        CHECK.is("26 a half is kept", loom.many(7), 1);
        CHECK.is("30 it would be whole", loom.lostWithout(1, 60), 0);
        CHECK.is("30 without link 0 one is lost at once, and the whole in 14", loom.lostWithout(0, 11), 1);
        CHECK.is("30 that in 12 more", loom.lostWithout(0, 12), 2);
        loom.run(1);
        CHECK.is("18 it is", loom.ofNode(1, 3), 1);
    }

    private static void wouldGoByToldOnes() {
        NetLoom loom = triangle();
        loom.node(13);
        loom.link(0, 1, 8, 1);
        loom.unroute(0, 0);
        loom.talk();
        loom.route(0, 11, 6, 3, 1);
        loom.mark(3, false, 1, false);
        loom.plain(0, 11, 1, 1);
        CHECK.is("21 it goes by the told one", loom.ofLink(3, false, 1), 1);
        loom.stream(0, 11, 4);
        loom.write(0, 1);
        CHECK.is("29 the data would go there, too, behind it", loom.sureIn(0, 3) + 10 * loom.sureIn(0, 4), 10);
        loom.mark(3, false, 2, false);
        CHECK.is("29 where it would be lost", loom.sureIn(0, 8), 0);
    }

    /** What came to be in one that would be is not there in the next one, nor in what is. */
    private static void wouldBeOld() {
        NetLoom loom = triangle();
        loom.stream(0, 11, 4);
        Nets.write(loom, 0, 2);
        for (int i = 0; i < 3; i++) {
            CHECK.is("29 in 60", loom.sureIn(0, 60), 2);
            CHECK.is("29 in 2", loom.sureIn(0, 2), 0);
            CHECK.is("30 without link 0: it would be broken, and each of three lost", loom.lostWithout(0, 60), 3);
        }
        CHECK.is("26 now", loom.many(3), 0);
        CHECK.is("22 nothing is sent", loom.ofStream(0, 2), 0);
    }

    // ---- digest

    /** By whole numbers without an end, of which the last 64 bits are to be taken once. */
    private static BigInteger sumOf(NetLoom loom) {
        BigInteger d = BigInteger.valueOf(9612);
        for (long v : DigestValues.of(loom)) {
            d = d.multiply(BigInteger.valueOf(31)).add(BigInteger.valueOf(v));
        }
        return d;
    }

    private static void digestOfAFew() {
        BigInteger due = BigInteger.valueOf(9612).multiply(BigInteger.valueOf(31).pow(17));
        CHECK.is("31 of a new one 17 values of 0 are put", due.bitLength() > 64, true);
        CHECK.is("31 of which the last 64 bits are", new NetLoom().digest(), due.longValue());
        NetLoom loom = new NetLoom();
        loom.run(1);
        CHECK.is("31 many() of 3 is 1, with 13 values behind it", loom.digest(),
                due.add(BigInteger.valueOf(31).pow(13)).longValue());
        loom.node(0);
        CHECK.is("31 of one node", loom.digest(), sumOf(loom).longValue());
    }

    private static void digestOfAll() {
        boolean wasBelow = false;
        boolean wasAbove = false;
        NetLoom[] looms = {Nets.some(), Nets.full(), Nets.talkedLine(6, 2, 3), Nets.line(2, 8, 1)};
        for (NetLoom loom : looms) {
            for (int i = 0; i < 20; i++) {
                BigInteger sum = sumOf(loom);
                long digest = loom.digest();
                CHECK.is("31 far beyond 64 bits", sum.bitLength() > 256, true);
                CHECK.is("31 the last 64 of them", digest, sum.longValue());
                CHECK.is("31 the same once more", loom.digest(), digest);
                wasBelow |= digest < 0;
                wasAbove |= digest > 0;
                loom.run(1 + i % 3);
            }
        }
        CHECK.is("31 it may be below 0", wasBelow, true);
        CHECK.is("31 and above", wasAbove, true);
    }

    /** Whatever is told or sent is seen in the digest, if it is seen in an answer. */
    private static void digestByMuch() {
        NetLoom loom = Nets.line(2, 8, 1);
        long last = loom.digest();
        for (int i = 0; i < 12; i++) {
            switch (i) {
                case 0: loom.talk(); break;
                case 1: loom.route(0, 63, 6, 0, 9); break;
                case 2: loom.filter(0, 0, 0, 0, 0, -1, false, true); break;
                case 3: loom.capture(1, 0, 0, 0, 0, -1); break;
                case 4: loom.plain(0, 11, 1, 1); break;
                case 5: loom.stream(0, 11, 4); break;
                case 6: loom.write(0, 9); break;
                case 7: loom.run(1); break;
                case 8: loom.unroute(0, 1); break;
                case 9: loom.end(0); break;
                case 10: loom.up(0, false); break;
                default: loom.node(0); break;
            }
            long next = loom.digest();
            CHECK.is("31 another one behind call " + i, next == last, false);
            CHECK.is("31 by its words behind call " + i, next, sumOf(loom).longValue());
            last = next;
        }
    }
}
