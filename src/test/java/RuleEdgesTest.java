/** Section 4 of the document, sentence by sentence: filters, what is known, translation, captures. */
public final class RuleEdgesTest {
    private static final Class<?> STATE = IllegalStateException.class;
    private static final Check CHECK = new Check("RuleEdgesTest");

    public static void main(String[] args) {
        eachPartOfARule();
        eachKind();
        fourFilters();
        withoutFilters();
        fragmentsOneByOne();
        onlyWhatComesOverALink();
        notKnownByItself();
        knownAsLet();
        notKnownAsDropped();
        knownAsMade();
        knownAsLostByAFullRow();
        knownAsTheFiltersSawIt();
        knownOfEachPair();
        knownWithoutFilters();
        knownAtEachNode();
        threeCaptures();
        capturesCountAll();
        insideNoneAndAll();
        onlyFromInsideToOutside();
        ownOnesAreNotTranslated();
        noteByMarkKindAndTarget();
        noteOfTheLaterOne();
        dataAndAck();
        noteOfANote();
        backIsOneOfAge();
        twentyTicksSinceItWasMade();
        twentyTicksSinceItWentOut();
        twentyTicksSinceItCameBack();
        usedInTheTwentiethTick();
        olderOnesGoFirst();
        notesStay();
        translatedWithoutRoute();
        CHECK.end();
    }

    // ---- rules

    private static void eachPartOfARule() {
        int[][] rules = {
            {10, 6, 12, 6, 0, 1}, {10, 6, 12, 6, -1, 1}, {0, 0, 0, 0, -1, 1}, {0, 0, 0, 0, 0, 1},
            {11, 6, 12, 6, 0, 0}, {10, 6, 13, 6, 0, 0}, {10, 6, 12, 6, 1, 0}, {12, 6, 10, 6, 0, 0},
            {11, 5, 12, 6, 0, 1}, {10, 6, 13, 5, 0, 1}, {12, 5, 12, 6, 0, 0}, {10, 6, 10, 5, 0, 0},
        };
        for (int[] r : rules) {
            NetLoom loom = Nets.talkedLine(3, 8, 1);
            loom.filter(1, r[0], r[1], r[2], r[3], r[4], false, false);
            loom.capture(1, r[0], r[1], r[2], r[3], r[4]);
            loom.plain(0, 12, 1, 1);
            CHECK.is("9 dropped if all fits", loom.run(3), r[5]);
            CHECK.is("12 counted if all fits", loom.captured(0), r[5]);
            CHECK.is("24 loss 6", loom.lost(6), r[5]);
            CHECK.is("section 4: otherwise it is let", loom.ofNode(2, 3), 1 - r[5]);
        }
    }

    /** One of each kind comes to node 1: a plain one, a data, an ack of what is sent from there, a note. */
    private static void eachKind() {
        for (int kind = -1; kind <= 3; kind++) {
            NetLoom loom = Nets.talkedLine(2, 8, 1);
            loom.route(1, 40, 6, 0, 1);
            loom.filter(1, 0, 0, 0, 0, kind, false, false);
            loom.capture(1, 0, 0, 0, 0, kind);
            loom.plain(0, 11, 1, 1);
            loom.stream(0, 11, 4);
            loom.write(0, 1);
            loom.stream(1, 10, 4);
            loom.write(1, 1);
            loom.plain(1, 40, 1, 1);
            int lost = loom.run(5);
            CHECK.is("9 of kind " + kind, loom.lost(6), kind == -1 ? 4 : 1);
            CHECK.is("9 and the one that has no route", lost, loom.lost(6) + loom.lost(0));
            CHECK.is("12 of kind " + kind, loom.captured(0), kind == -1 ? 4 : 1);
            CHECK.is("9 the plain one", loom.ofNode(1, 3), kind == -1 || kind == 0 ? 0 : 1);
            CHECK.is("9 the data", loom.ofStream(0, 5), kind == -1 || kind == 1 ? 0 : 1);
            CHECK.is("9 the ack", loom.ofStream(1, 3), kind == -1 || kind == 2 ? 0 : 1);
            CHECK.is("9 the note", loom.ofNode(1, 5), kind == -1 || kind == 3 ? 0 : 1);
        }
    }

    private static void fourFilters() {
        for (int first = 0; first < 4; first++) {
            NetLoom loom = Nets.talkedLine(2, 8, 1);
            for (int i = 0; i < 4; i++) {
                boolean fits = i >= first;
                CHECK.is("9 how many there are", loom.filter(1, fits ? 10 : 20, 6, 0, 0, -1, false, i != first), i + 1);
            }
            CHECK.refuses("9 a fifth", loom, STATE, () -> loom.filter(1, 0, 0, 0, 0, -1, false, true));
            loom.plain(0, 11, 1, 1);
            CHECK.is("section 4: the first one that fits, number " + first, loom.run(2), 1);
            CHECK.is("10 four", loom.unfilter(1), 4);
            CHECK.is("10 then none", loom.unfilter(1), 0);
            for (int i = 0; i < 4; i++) {
                CHECK.is("9 anew", loom.filter(1, i >= first ? 10 : 20, 6, 0, 0, -1, false, i == first), i + 1);
            }
            loom.plain(0, 11, 1, 1);
            CHECK.is("section 4: lets, though others behind it drop", loom.run(2), 0);
        }
    }

    private static void withoutFilters() {
        NetLoom loom = Nets.talkedLine(3, 8, 1);
        loom.filter(1, 20, 6, 0, 0, -1, false, false);
        loom.filter(2, 0, 0, 20, 6, -1, false, false);
        loom.plain(0, 12, 1, 1);
        CHECK.is("section 4: without one that fits it is let", loom.run(3), 0);
        loom.unfilter(1);
        loom.filter(0, 0, 0, 0, 0, -1, false, false);
        loom.plain(0, 12, 2, 1);
        CHECK.is("section 4: those of another node do not matter", loom.run(3), 0);
        CHECK.is("18 both came", loom.ofNode(2, 3), 2);
    }

    private static void fragmentsOneByOne() {
        NetLoom loom = Nets.talkedLine(2, 2, 1);
        loom.capture(1, 10, 6, 11, 6, 0);
        loom.filter(1, 10, 6, 11, 6, 0, false, false);
        loom.plain(0, 11, 1, 7);
        CHECK.is("section 4: a fragment, too: two of four", loom.run(3), 2);
        loom.unfilter(1);
        loom.run(2);
        CHECK.is("section 4: the others are let", loom.many(7), 2);
        CHECK.is("12 all four are counted", loom.captured(0), 4);
    }

    private static void onlyWhatComesOverALink() {
        NetLoom loom = Nets.talkedLine(2, 8, 1);
        loom.filter(0, 0, 0, 0, 0, -1, false, false);
        loom.capture(0, 0, 0, 0, 0, -1);
        loom.plain(0, 11, 1, 1);
        loom.plain(0, 10, 1, 1);
        loom.plain(0, 40, 1, 1);
        CHECK.is("section 4: what is made there passes no filter", loom.run(2), 0);
        CHECK.is("12 and no capture", loom.captured(0), 0);
        loom.plain(1, 10, 1, 1);
        CHECK.is("section 4: what comes does", loom.run(2), 1);
        CHECK.is("12 one", loom.captured(0), 1);
    }

    // ---- known

    /** Node 1 drops what comes from 12, if that is not known. */
    private static NetLoom guarded() {
        NetLoom loom = Nets.talkedLine(3, 8, 1);
        loom.filter(1, 12, 6, 0, 0, -1, true, true);
        loom.filter(1, 12, 6, 0, 0, -1, false, false);
        return loom;
    }

    private static int lostOfOne(NetLoom loom, int node, int target) {
        loom.plain(node, target, 1, 1);
        return loom.run(6);
    }

    private static void notKnownByItself() {
        NetLoom loom = guarded();
        CHECK.is("section 4: not known", lostOfOne(loom, 2, 10), 1);
        CHECK.is("section 4: nor by the one ahead of it", lostOfOne(loom, 2, 10), 1);
        NetLoom self = Nets.line(2, 8, 1);
        self.route(0, 40, 6, 0, 1);
        self.route(1, 40, 6, 0, 1);
        self.filter(1, 0, 0, 0, 0, -1, true, false);
        CHECK.is("section 4: nor as it comes by for the second time", lostOfOne(self, 0, 40), 0);
    }

    private static void knownAsLet() {
        NetLoom loom = guarded();
        CHECK.is("section 4: from 10 to 12", lostOfOne(loom, 0, 12), 0);
        CHECK.is("section 4: so from 12 to 10 is known", lostOfOne(loom, 2, 10), 0);
        loom.run(60);
        CHECK.is("section 4: for ever", lostOfOne(loom, 2, 10), 0);
        CHECK.is("section 4: but not from 12 to 11", lostOfOne(loom, 2, 11), 1);
        NetLoom lost = Nets.line(3, 8, 1);
        lost.route(0, 12, 6, 0, 1);
        lost.route(2, 10, 6, 1, 1);
        lost.filter(1, 12, 6, 0, 0, -1, true, true);
        lost.filter(1, 12, 6, 0, 0, -1, false, false);
        CHECK.is("section 4: let there, then lost without a route, and its note, too", lostOfOne(lost, 0, 12), 2);
        CHECK.is("section 4: so the other way is known, and lost as late", lostOfOne(lost, 2, 10), 2);
        CHECK.is("24 none is dropped", lost.lost(6), 0);
    }

    private static void notKnownAsDropped() {
        NetLoom loom = guarded();
        loom.filter(1, 10, 6, 0, 0, -1, false, false);
        CHECK.is("section 4: dropped", lostOfOne(loom, 0, 12), 1);
        CHECK.is("section 4: so the other way is not known", lostOfOne(loom, 2, 10), 1);
    }

    private static void knownAsMade() {
        NetLoom loom = guarded();
        CHECK.is("section 4: not known", lostOfOne(loom, 2, 11), 1);
        CHECK.is("section 4: made there", lostOfOne(loom, 1, 12), 0);
        CHECK.is("section 4: known by that", lostOfOne(loom, 2, 11), 0);
        NetLoom noRoute = guarded();
        noRoute.up(1, false);
        CHECK.is("section 4: lost as it was made", noRoute.plain(1, 12, 1, 1) + noRoute.lost(0), 1);
        noRoute.up(1, true);
        CHECK.is("section 4: known by that, too", lostOfOne(noRoute, 2, 11), 0);
        NetLoom ack = Nets.talkedLine(2, 8, 1);
        ack.stream(0, 11, 4);
        ack.write(0, 1);
        ack.run(3);
        ack.filter(1, 0, 0, 0, 0, -1, true, false);
        CHECK.is("section 4: an ack that was made there makes the other way known", lostOfOne(ack, 0, 11), 1);
    }

    private static void knownAsLostByAFullRow() {
        NetLoom loom = Nets.talkedLine(4, 8, 1);
        loom.filter(1, 13, 6, 0, 0, -1, true, true);
        loom.filter(1, 13, 6, 0, 0, -1, false, false);
        for (int i = 0; i < 5; i++) {
            loom.plain(1, 12, 1, 1);
        }
        CHECK.is("section 4: not known", lostOfOne(loom, 3, 11), 1);
        for (int i = 0; i < 5; i++) {
            loom.plain(1, 12, 1, 1);
        }
        loom.plain(1, 13, 1, 1);
        CHECK.is("24 lost, as the row is full", loom.lost(1), 1);
        CHECK.is("section 4: known by that, too", lostOfOne(loom, 3, 11), 0);
    }

    /** What comes to a translator is known as it came: from 12 to 11, not to 10. */
    private static void knownAsTheFiltersSawIt() {
        NetLoom loom = Nets.talkedLine(3, 8, 1);
        loom.translator(1, 10, 6);
        CHECK.is("section 4: out", lostOfOne(loom, 0, 12), 0);
        loom.filter(1, 12, 6, 0, 0, -1, true, true);
        loom.filter(1, 12, 6, 0, 0, -1, false, false);
        CHECK.is("section 4: it came by as from 10, so what is for 11 is not known", lostOfOne(loom, 2, 11), 1);
        CHECK.is("section 4: but what is for 10", lostOfOne(loom, 2, 10), 0);
        NetLoom back = Nets.talkedLine(3, 8, 1);
        back.translator(1, 10, 6);
        lostOfOne(back, 0, 12);
        back.translator(1, 10, -1);
        lostOfOne(back, 2, 11);
        CHECK.is("section 4: back to 10", back.ofNode(0, 3), 1);
        back.filter(1, 11, 6, 12, 6, -1, true, false);
        back.filter(1, 10, 6, 12, 6, -1, true, false);
        CHECK.is("section 4: from 10 to 12 is not known by that", lostOfOne(back, 0, 12), 0);
        back.unfilter(1);
        back.filter(1, 10, 6, 12, 6, -1, false, true);
        back.filter(1, 12, 6, 10, 6, -1, true, false);
        CHECK.is("section 4: from 12 to 10 is known by those of 10", lostOfOne(back, 2, 10), 1);
    }

    private static void knownOfEachPair() {
        NetLoom loom = Nets.talkedLine(4, 8, 1);
        loom.filter(1, 0, 0, 10, 6, -1, true, true);
        loom.filter(1, 0, 0, 10, 6, -1, false, false);
        CHECK.is("section 4: from 10 to 12", lostOfOne(loom, 0, 12), 0);
        CHECK.is("section 4: 13 is not known", lostOfOne(loom, 3, 10), 1);
        CHECK.is("section 4: from 10 to 13", lostOfOne(loom, 0, 13), 0);
        CHECK.is("section 4: 13 is known", lostOfOne(loom, 3, 10), 0);
        CHECK.is("section 4: 12 is known on", lostOfOne(loom, 2, 10), 0);
        loom.unfilter(1);
        loom.filter(1, 0, 0, 11, 6, -1, true, true);
        loom.filter(1, 0, 0, 11, 6, -1, false, false);
        loom.plain(1, 12, 1, 1);
        loom.plain(1, 13, 1, 1);
        loom.plain(1, 63, 1, 1);
        loom.run(3);
        CHECK.is("section 4: 12 is known of what was made", lostOfOne(loom, 2, 11), 0);
        CHECK.is("section 4: 13, too", lostOfOne(loom, 3, 11), 0);
        CHECK.is("section 4: 10 is not", lostOfOne(loom, 0, 11), 1);
        addressesZeroAndSixtyThree();
    }

    private static void addressesZeroAndSixtyThree() {
        NetLoom loom = new NetLoom();
        loom.node(0);
        loom.node(63);
        loom.link(0, 1, 8, 1);
        loom.talk();
        loom.filter(1, 0, 0, 0, 0, -1, true, false);
        CHECK.is("section 4: 0 is not known", lostOfOne(loom, 0, 63), 0);
        CHECK.is("section 4: made from 63 to 0", lostOfOne(loom, 1, 0), 0);
        CHECK.is("section 4: 0 is known", lostOfOne(loom, 0, 63), 1);
    }

    private static void knownWithoutFilters() {
        NetLoom loom = Nets.talkedLine(3, 8, 1);
        CHECK.is("section 4: let, as there is no filter", lostOfOne(loom, 0, 12), 0);
        loom.filter(1, 12, 6, 10, 6, -1, true, false);
        CHECK.is("section 4: known by that", lostOfOne(loom, 2, 10), 1);
    }

    private static void knownAtEachNode() {
        NetLoom loom = Nets.talkedLine(3, 8, 1);
        lostOfOne(loom, 0, 11);
        loom.filter(0, 11, 6, 10, 6, -1, true, false);
        loom.filter(2, 11, 6, 12, 6, -1, true, false);
        CHECK.is("section 4: at node 2 it is not known", lostOfOne(loom, 1, 12), 0);
        CHECK.is("section 4: at node 0 it is", lostOfOne(loom, 1, 10), 1);
    }

    // ---- captures

    private static void threeCaptures() {
        NetLoom loom = Nets.talkedLine(2, 8, 1);
        for (int i = 0; i < 3; i++) {
            CHECK.is("12 its number", loom.capture(1, 10, 6, 0, 0, -1), i);
            CHECK.is("26 captures", loom.many(8), i + 1);
            CHECK.is("25 none yet", loom.captured(i), 0);
            CHECK.is("17 one goes", lostOfOne(loom, 0, 11), 0);
        }
        CHECK.refuses("12 a fourth", loom, STATE, () -> loom.capture(0, 0, 0, 0, 0, 0));
        for (int i = 0; i < 3; i++) {
            CHECK.is("25 those since it was told", loom.captured(i), 3 - i);
        }
    }

    private static void capturesCountAll() {
        NetLoom loom = Nets.talkedLine(3, 8, 1);
        loom.capture(1, 0, 0, 0, 0, -1);
        loom.capture(2, 0, 0, 0, 0, -1);
        loom.mark(0, false, 1, true);
        loom.plain(0, 12, 1, 1);
        loom.run(5);
        CHECK.is("25 one that came twice", loom.captured(0), 2);
        CHECK.is("25 and there", loom.captured(1), 2);
        loom.mark(0, false, 1, false);
        lostOfOne(loom, 0, 12);
        CHECK.is("25 not what was lost ahead of it", loom.captured(0), 2);
        loom.filter(1, 0, 0, 0, 0, -1, false, false);
        lostOfOne(loom, 0, 12);
        CHECK.is("25 but what is dropped there", loom.captured(0), 3);
        CHECK.is("25 that does not come further", loom.captured(1), 2);
        loom.up(1, false);
        loom.unfilter(1);
        loom.plain(0, 12, 1, 1);
        loom.run(4);
        CHECK.is("25 and what has no route there", loom.captured(0), 4);
    }

    // ---- translation

    private static void insideNoneAndAll() {
        NetLoom loom = Nets.talkedLine(3, 8, 1);
        loom.capture(2, 10, 6, 0, 0, -1);
        lostOfOne(loom, 0, 12);
        CHECK.is("11 no translator at first", loom.captured(0), 1);
        CHECK.is("11 value 63, no bits: all is inside", loom.translator(1, 63, 0), 0);
        lostOfOne(loom, 0, 12);
        CHECK.is("11 so no target is outside", loom.captured(0), 2);
        CHECK.is("11 of one bit, too", loom.translator(1, 0, 1), 0);
        lostOfOne(loom, 0, 12);
        CHECK.is("11 12 is inside", loom.captured(0), 3);
        CHECK.is("11 not with 4 bits", loom.translator(1, 8, 4), 0);
        lostOfOne(loom, 0, 12);
        CHECK.is("11 from the translator", loom.captured(0), 3);
        CHECK.is("18 one note", loom.ofNode(1, 9), 1);
        CHECK.is("11 the note is told", loom.translator(1, 0, -1), 1);
        lostOfOne(loom, 0, 12);
        CHECK.is("11 none any more", loom.captured(0), 4);
    }

    private static void onlyFromInsideToOutside() {
        NetLoom loom = Nets.talkedLine(5, 8, 1);
        loom.translator(2, 11, 6);
        CHECK.is("17 none is lost", lostOfOne(loom, 0, 14), 0);
        CHECK.is("section 4: from outside to outside", loom.ofNode(2, 9), 0);
        CHECK.is("17 none is lost", lostOfOne(loom, 4, 11), 0);
        CHECK.is("section 4: from outside to inside", loom.ofNode(2, 9), 0);
        CHECK.is("17 none is lost", lostOfOne(loom, 1, 12), 0);
        CHECK.is("section 4: from inside to the translator itself", loom.ofNode(2, 9), 0);
        CHECK.is("17 none is lost", lostOfOne(loom, 4, 12), 0);
        CHECK.is("section 4: from outside to it", loom.ofNode(2, 9), 0);
        CHECK.is("17 none is lost", lostOfOne(loom, 1, 14), 0);
        CHECK.is("section 4: from inside to outside", loom.ofNode(2, 9), 1);
        CHECK.is("18 at no other node", loom.ofNode(1, 9) + loom.ofNode(3, 9), 0);
    }

    private static void ownOnesAreNotTranslated() {
        NetLoom loom = Nets.talkedLine(3, 8, 1);
        loom.translator(1, 11, 6);
        lostOfOne(loom, 1, 12);
        CHECK.is("section 4: it is made there, not to be routed on", loom.ofNode(1, 9), 0);
        loom.stream(2, 11, 4);
        loom.write(0, 1);
        loom.run(4);
        CHECK.is("section 4: nor is an ack", loom.ofNode(1, 9), 0);
        CHECK.is("22 which comes", loom.ofStream(0, 3), 1);
    }

    private static void noteByMarkKindAndTarget() {
        NetLoom loom = Nets.talkedLine(4, 8, 1);
        loom.translator(1, 10, 6);
        loom.plain(0, 12, 99, 1);
        loom.run(3);
        CHECK.is("18 one note", loom.ofNode(1, 9), 1);
        loom.plain(2, 11, 98, 1);
        loom.plain(3, 11, 99, 1);
        loom.run(5);
        CHECK.is("section 4: neither another mark nor another target", loom.ofNode(1, 3), 2);
        loom.plain(2, 11, 99, 1);
        loom.run(5);
        CHECK.is("section 4: with all of it", loom.ofNode(0, 4), 99);
        CHECK.is("section 4: goes on", loom.ofNode(1, 3), 2);
        loom.plain(0, 12, 98, 1);
        loom.plain(0, 13, 99, 1);
        loom.run(5);
        CHECK.is("18 three notes", loom.ofNode(1, 9), 3);
        loom.stream(2, 11, 4);
        loom.stream(0, 12, 4);
        loom.plain(0, 12, 0, 1);
        loom.run(4);
        CHECK.is("18 four notes", loom.ofNode(1, 9), 4);
        loom.write(0, 1);
        loom.run(4);
        CHECK.is("section 4: a data of mark 0 is of another kind", loom.ofStream(0, 3), 1);
    }

    private static void noteOfTheLaterOne() {
        NetLoom loom = Nets.talkedLine(4, 8, 1);
        loom.translator(2, 10, 5);
        loom.plain(0, 13, 7, 1);
        loom.run(4);
        loom.plain(1, 13, 7, 1);
        loom.run(3);
        CHECK.is("18 in place of the older one", loom.ofNode(2, 9), 1);
        loom.plain(3, 12, 7, 1);
        loom.run(4);
        CHECK.is("section 4: to the later one", loom.ofNode(1, 3), 1);
        CHECK.is("section 4: not to the other", loom.ofNode(0, 3), 0);
        loom.plain(0, 13, 7, 1);
        loom.run(4);
        loom.plain(3, 12, 7, 1);
        loom.run(4);
        CHECK.is("section 4: to the first one again", loom.ofNode(0, 3), 1);
    }

    private static void dataAndAck() {
        NetLoom loom = Nets.talkedLine(3, 8, 1);
        loom.translator(1, 10, 6);
        loom.capture(2, 11, 6, 12, 6, 1);
        loom.capture(1, 12, 6, 11, 6, 2);
        loom.capture(0, 12, 6, 10, 6, 2);
        loom.stream(0, 12, 4);
        loom.write(0, 1);
        loom.run(5);
        for (int i = 0; i < 3; i++) {
            CHECK.is("section 4: a data goes out, an ack comes back, " + i, loom.captured(i), 1);
        }
        CHECK.is("22 sure", loom.ofStream(0, 3), 1);
        NetLoom ack = Nets.talkedLine(3, 8, 1);
        ack.translator(1, 10, 6);
        ack.capture(2, 11, 6, 12, 6, 2);
        ack.capture(0, 12, 6, 10, 6, 1);
        ack.stream(2, 10, 4);
        ack.write(0, 1);
        ack.run(5);
        CHECK.is("section 4: an ack goes out", ack.captured(0), 1);
        CHECK.is("18 so it is noted", ack.ofNode(1, 9), 1);
        CHECK.is("22 sure", ack.ofStream(0, 3), 1);
        ack.stream(2, 11, 4);
        ack.write(0, 2);
        ack.run(5);
        CHECK.is("section 4: the data is for 10 itself", ack.captured(1), 2);
    }

    /** A note goes out from 10 with the mark 0; then one of mark 0 from its target is for 10. */
    private static void noteOfANote() {
        NetLoom loom = Nets.talkedLine(3, 8, 1);
        loom.translator(1, 10, 6);
        loom.route(2, 40, 6, 1, 1);
        loom.route(1, 40, 6, 0, 1);
        loom.plain(2, 40, 5, 1);
        loom.run(5);
        CHECK.is("18 the note came from the translator", loom.ofNode(2, 5), 1);
        CHECK.is("18 it is noted", loom.ofNode(1, 9), 1);
        loom.route(1, 41, 6, 1, 1);
        loom.plain(1, 41, 6, 1);
        loom.run(5);
        CHECK.is("section 4: a note of the same mark goes to 10", loom.ofNode(0, 5), 1);
        CHECK.is("18 and not to the translator, of whose packet it is", loom.ofNode(1, 5), 0);
        loom.plain(2, 11, 0, 1);
        loom.run(5);
        CHECK.is("section 4: a plain one of mark 0 does not", loom.ofNode(1, 3), 1);
    }

    /** What is translated back goes to and fro behind that: as it came for the first time, it was one of age, too. */
    private static void backIsOneOfAge() {
        NetLoom loom = Nets.line(3, 8, 1);
        loom.route(0, 12, 6, 0, 1);
        loom.route(1, 12, 6, 1, 1);
        loom.translator(1, 10, 6);
        loom.route(2, 11, 6, 1, 1);
        loom.plain(0, 12, 7, 1);
        loom.run(3);
        loom.route(1, 10, 6, 1, 1);
        loom.route(2, 10, 6, 1, 1);
        loom.plain(2, 11, 7, 1);
        CHECK.is("section 4: it comes five times", loom.run(6), 0);
        CHECK.is("section 2: lost as it comes for the sixth time", loom.run(1), 1);
        CHECK.is("24 by its age", loom.lost(4), 1);
    }

    /** A note that was made in tick 2. */
    private static NetLoom noted() {
        NetLoom loom = Nets.talkedLine(3, 8, 1);
        loom.translator(1, 10, 6);
        loom.plain(0, 12, 7, 1);
        loom.run(2);
        CHECK.is("18 noted in 2", loom.ofNode(1, 9), 1);
        return loom;
    }

    private static void twentyTicksSinceItWasMade() {
        NetLoom loom = noted();
        loom.run(19);
        CHECK.is("section 4: there in 21", loom.ofNode(1, 9), 1);
        loom.run(1);
        CHECK.is("section 4: too old in 22", loom.ofNode(1, 9), 0);
        loom.plain(2, 11, 7, 1);
        loom.run(3);
        CHECK.is("section 4: it does not translate back", loom.ofNode(1, 3), 1);
    }

    private static void twentyTicksSinceItWentOut() {
        NetLoom loom = noted();
        loom.run(8);
        loom.plain(0, 12, 7, 1);
        loom.run(2);
        CHECK.is("section 4: the same in 12", loom.ofNode(1, 9), 1);
        loom.run(19);
        CHECK.is("section 4: there in 31", loom.ofNode(1, 9), 1);
        loom.run(1);
        CHECK.is("section 4: too old in 32", loom.ofNode(1, 9), 0);
    }

    private static void twentyTicksSinceItCameBack() {
        NetLoom loom = noted();
        loom.run(8);
        loom.plain(2, 11, 7, 1);
        loom.run(2);
        loom.plain(2, 11, 8, 1);
        loom.run(19);
        CHECK.is("section 4: used in 12, there in 31", loom.ofNode(1, 9), 1);
        loom.run(1);
        CHECK.is("section 4: too old in 32", loom.ofNode(1, 9), 0);
    }

    private static void usedInTheTwentiethTick() {
        NetLoom loom = noted();
        loom.run(18);
        loom.plain(2, 11, 7, 1);
        loom.run(2);
        CHECK.is("section 4: used in step 1 of 22, so it stays", loom.ofNode(1, 9), 1);
        loom.run(1);
        CHECK.is("18 it came to 10", loom.ofNode(0, 3), 1);
        loom.run(18);
        CHECK.is("section 4: there in 41", loom.ofNode(1, 9), 1);
        loom.run(1);
        CHECK.is("section 4: too old in 42", loom.ofNode(1, 9), 0);
    }

    /** Three notes, of which the first one is the oldest, and then the one in the middle. */
    private static void olderOnesGoFirst() {
        NetLoom loom = noted();
        loom.plain(0, 12, 8, 1);
        loom.run(5);
        loom.plain(0, 12, 9, 1);
        loom.run(2);
        CHECK.is("18 noted in 2, 4 and 9", loom.ofNode(1, 9), 3);
        loom.run(13);
        CHECK.is("18 the first is gone in 22", loom.ofNode(1, 9), 2);
        loom.plain(2, 11, 8, 1);
        loom.run(1);
        loom.plain(2, 11, 9, 1);
        loom.run(1);
        CHECK.is("18 the second was used in 24, ahead of step 2", loom.ofNode(1, 9), 2);
        loom.run(3);
        CHECK.is("18 to 10 came both", loom.ofNode(0, 3), 2);
        loom.run(17);
        CHECK.is("18 then the second one goes in 44", loom.ofNode(1, 9), 1);
        loom.run(1);
        CHECK.is("18 and the third one in 45", loom.ofNode(1, 9), 0);
    }

    private static void notesStay() {
        NetLoom loom = noted();
        CHECK.is("11 it has one note", loom.translator(1, 40, 6), 1);
        loom.plain(2, 11, 7, 1);
        loom.run(3);
        CHECK.is("11 it translates back", loom.ofNode(0, 4), 7);
        CHECK.is("11 it has it still", loom.translator(1, 0, -1), 1);
        loom.plain(2, 11, 7, 1);
        loom.run(3);
        CHECK.is("11 and as it is no translator", loom.ofNode(0, 3), 2);
        CHECK.is("11 of another node none", loom.translator(0, 0, 0), 0);
        loom.run(20);
        CHECK.is("11 too old", loom.translator(1, 10, 6), 0);
    }

    private static void translatedWithoutRoute() {
        NetLoom loom = Nets.line(3, 8, 1);
        loom.route(0, 12, 6, 0, 1);
        loom.translator(1, 10, 6);
        loom.plain(0, 12, 7, 1);
        CHECK.is("section 2: translated, then lost", loom.run(2), 1);
        CHECK.is("18 noted though", loom.ofNode(1, 9), 1);
        CHECK.is("18 its source was 11 then, so that has the note", loom.ofNode(1, 5), 1);
        CHECK.is("18 its number is the id", loom.ofNode(1, 7), 0);
    }
}
