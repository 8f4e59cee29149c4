/** Section 2 of the document, sentence by sentence: packets, fragments, their age, and what a tick does. */
public final class PacketEdgesTest {
    private static final Check CHECK = new Check("PacketEdgesTest");

    public static void main(String[] args) {
        ids();
        gotAtOnce();
        cutBySize();
        fragmentOfFragment();
        rowOfFive();
        rowTakesPartOfIt();
        withoutLetters();
        captureFilterTranslationInOrder();
        ageOfSix();
        ageAtTheTarget();
        ageAheadOfTranslation();
        ageOfFragments();
        ageOfNotes();
        noteWithoutLetters();
        noNoteOfOtherLosses();
        noteOfNoNote();
        ackWithoutWayBack();
        wholesBySourceAndId();
        wholesInAnyOrder();
        wholeOfEachLetter();
        fragmentInTheTwelfthTick();
        fragmentInTheThirteenthTick();
        fragmentsOfNodeZero();
        lastOneIsTold();
        delays();
        oneLeavesInATick();
        orderOfDirections();
        orderOfLinks();
        madeInStepThreeLeavesInStepFour();
        marksOfOneAndTwenty();
        marksAreUsedOnce();
        marksToldAgain();
        marksOfDirections();
        wayIsFull();
        downAndUp();
        runsOfAllLosses();
        CHECK.end();
    }

    /** Nodes 0 and 1, which send all for the address to and fro. */
    private static NetLoom loop(int address) {
        NetLoom loom = Nets.line(2, 8, 1);
        loom.route(0, address, 6, 0, 1);
        loom.route(1, address, 6, 0, 1);
        return loom;
    }

    // ---- to route one

    private static void ids() {
        NetLoom loom = Nets.talkedLine(2, 8, 1);
        CHECK.is("13 the first id", loom.plain(0, 11, 1, 1), 0);
        CHECK.refuses("13 a refused one", loom, IllegalArgumentException.class, () -> loom.plain(0, 64, 1, 1));
        CHECK.is("13 one more", loom.plain(1, 11, 1, 1), 1);
        CHECK.is("13 without a route", loom.plain(1, 40, 1, 1), 2);
        CHECK.is("13 one more than that of its note", loom.plain(1, 10, 1, 1), 4);
        CHECK.is("26 made ever", loom.many(4), 5);
        loom.stream(0, 11, 4);
        loom.write(0, 1);
        loom.run(3);
        CHECK.is("13 behind a data and an ack", loom.plain(0, 11, 1, 1), 7);
    }

    private static void gotAtOnce() {
        NetLoom loom = Nets.talkedLine(2, 2, 1);
        loom.route(0, 0, 0, 0, 1);
        loom.filter(0, 0, 0, 0, 0, -1, false, false);
        loom.capture(0, 0, 0, 0, 0, -1);
        for (int size = 0; size <= 8; size++) {
            loom.plain(0, 10, 20 + size, size);
            CHECK.is("section 2: got there at once, not cut, though there is a route", loom.ofNode(0, 4), 20 + size);
        }
        CHECK.is("section 2: nine", loom.ofNode(0, 3), 9);
        CHECK.is("section 2: none in a row", loom.many(5), 0);
        CHECK.is("section 2: neither filtered", loom.lost(6), 0);
        CHECK.is("section 2: nor captured", loom.captured(0), 0);
        CHECK.isMean("27 in no time", loom.meanTime(), 0.0);
    }

    private static void cutBySize() {
        for (int size = 2; size <= 8; size++) {
            for (int letters = 0; letters <= 8; letters++) {
                NetLoom loom = Nets.talkedLine(2, size, 1);
                loom.plain(0, 11, 1, letters);
                int pieces = Math.max(1, (letters + size - 1) / size);
                String what = "section 2: " + letters + " letters by " + size;
                CHECK.is(what + ", pieces", loom.ofLink(0, false, 1), pieces);
                CHECK.is(what + ", letters", loom.ofLink(0, false, 5), letters);
                loom.run(1);
                CHECK.is(what + ", behind the first one", loom.ofLink(0, false, 5), Math.max(0, letters - size));
                for (int k = 1; k < pieces; k++) {
                    loom.run(1);
                    CHECK.is(what + ", kept", loom.many(7), k);
                    CHECK.is(what + ", not got", loom.ofNode(1, 3), 0);
                    CHECK.is(what + ", left", loom.ofLink(0, false, 5), Math.max(0, letters - (k + 1) * size));
                }
                loom.run(1);
                CHECK.is(what + ", got", loom.ofNode(1, 3), 1);
                CHECK.is(what + ", none kept", loom.many(7), 0);
                CHECK.is(what + ", one packet", loom.many(4), 1);
            }
        }
    }

    /** 8 letters as 4 and 4, then as 3, 1, 3 and 1: the second piece is no last one. */
    private static void fragmentOfFragment() {
        NetLoom loom = Nets.line(3, 4, 1);
        loom.link(1, 2, 3, 1);
        loom.route(0, 12, 6, 0, 1);
        loom.route(1, 12, 6, 2, 1);
        loom.plain(0, 12, 1, 8);
        CHECK.is("section 2: two", loom.ofLink(0, false, 1), 2);
        loom.run(2);
        CHECK.is("section 2: of the first one two, one has left", loom.ofLink(2, false, 1), 1);
        CHECK.is("section 2: that with the rest", loom.ofLink(2, false, 5), 1);
        CHECK.is("section 2: the same id", loom.ofLink(2, false, 4), 0);
        loom.run(2);
        CHECK.is("section 2: four letters are there, and none is the last", loom.many(7), 2);
        CHECK.is("section 2: not got", loom.ofNode(2, 3), 0);
        loom.run(1);
        CHECK.is("section 2: seven letters", loom.many(7), 3);
        CHECK.is("section 2: not got", loom.ofNode(2, 3), 0);
        loom.run(1);
        CHECK.is("section 2: the last one", loom.ofNode(2, 3), 1);
        CHECK.is("section 2: none is kept", loom.many(7), 0);
    }

    private static void rowOfFive() {
        NetLoom loom = Nets.talkedLine(2, 8, 1);
        for (int i = 1; i <= 7; i++) {
            loom.plain(0, 11, i, 1);
            CHECK.is("section 2: at the end of the row", loom.ofLink(0, false, 1), Math.min(5, i));
            CHECK.is("section 2: a sixth and a seventh are lost", loom.lost(1), Math.max(0, i - 5));
        }
        loom.plain(1, 10, 8, 1);
        CHECK.is("section 2: the other direction is empty", loom.ofLink(0, true, 1), 1);
        CHECK.is("26 in all rows", loom.many(5), 6);
        CHECK.is("24 as many were lost", loom.lost(1), 2);
        CHECK.is("section 2: without notes", loom.many(4), 8);
        loom.run(1);
        loom.plain(0, 11, 9, 1);
        loom.plain(0, 11, 10, 1);
        CHECK.is("section 2: one has left, so one more is taken", loom.lost(1), 3);
        loom.run(6);
        CHECK.is("section 2: six came", loom.ofNode(1, 3), 6);
        CHECK.is("section 2: in their order", loom.ofNode(1, 4), 9);
    }

    private static void rowTakesPartOfIt() {
        NetLoom loom = Nets.talkedLine(2, 2, 1);
        loom.plain(0, 11, 1, 6);
        loom.plain(0, 11, 2, 7);
        CHECK.is("section 2: two of four fragments are lost", loom.lost(1), 2);
        CHECK.is("section 2: letters of the row", loom.ofLink(0, false, 5), 10);
        loom.run(6);
        CHECK.is("section 2: of the second one two are kept", loom.many(7), 2);
        CHECK.is("section 2: the first one is got", loom.ofNode(1, 4), 1);
        CHECK.is("section 2: there in tick 16", loom.run(10), 0);
        CHECK.is("section 2: lost in tick 17, 12 behind the first", loom.run(1), 1);
    }

    private static void withoutLetters() {
        NetLoom loom = Nets.talkedLine(3, 2, 1);
        loom.plain(0, 12, 5, 0);
        loom.plain(0, 12, 6, 0);
        CHECK.is("21 two in the row", loom.ofLink(0, false, 1), 2);
        CHECK.is("21 no letters", loom.ofLink(0, false, 5), 0);
        CHECK.is("21 the first one's id", loom.ofLink(0, false, 4), 0);
        loom.run(1);
        CHECK.is("21 the other one's id", loom.ofLink(0, false, 4), 1);
        loom.run(3);
        CHECK.is("section 2: both came", loom.ofNode(2, 3), 2);
        CHECK.is("21 nothing in the row", loom.ofLink(0, false, 4), -1);
    }

    // ---- as it comes over a link

    private static void captureFilterTranslationInOrder() {
        NetLoom loom = Nets.talkedLine(3, 8, 1);
        loom.capture(1, 12, 6, 11, 6, 0);
        loom.capture(1, 12, 6, 10, 6, 0);
        loom.capture(0, 12, 6, 10, 6, 0);
        loom.translator(1, 10, 6);
        loom.plain(0, 12, 7, 1);
        loom.run(3);
        loom.plain(2, 11, 7, 1);
        loom.run(3);
        CHECK.is("section 2: captured as it came", loom.captured(0), 1);
        CHECK.is("section 2: not as it went on", loom.captured(1), 0);
        CHECK.is("section 2: behind the translation", loom.captured(2), 1);
        loom.filter(1, 12, 6, 10, 6, -1, false, false);
        loom.plain(2, 11, 7, 1);
        CHECK.is("section 2: the filters are ahead of the translation back", loom.run(3), 0);
        loom.filter(1, 12, 6, 11, 6, -1, false, false);
        loom.plain(2, 11, 7, 1);
        CHECK.is("section 2: they see it as it came", loom.run(3), 1);
        CHECK.is("section 2: captures are ahead of the filters", loom.captured(0), 3);
    }

    private static void ageOfSix() {
        for (int ticks = 1; ticks <= 6; ticks++) {
            NetLoom loom = loop(40);
            loom.plain(0, 40, 1, 1);
            CHECK.is("section 2: it goes to and fro", loom.run(ticks), 0);
            CHECK.is("section 2: left so often", loom.ofLink(0, false, 3) + loom.ofLink(0, true, 3), ticks);
        }
        NetLoom loom = loop(40);
        loom.plain(0, 40, 1, 1);
        CHECK.is("section 2: as it comes for the sixth time", loom.run(7), 1);
        CHECK.is("24 its age is 0", loom.lost(4), 1);
        CHECK.is("28 that is where the trace ends", loom.trace(0, 40, 6), 0);
        CHECK.is("28 no further", loom.trace(0, 40, 7), -1);
    }

    private static void ageAtTheTarget() {
        NetLoom loom = Nets.line(3, 8, 1);
        loom.route(0, 12, 6, 0, 1);
        loom.route(1, 12, 6, 0, 1);
        loom.plain(0, 12, 1, 1);
        loom.run(5);
        loom.unroute(1, 0);
        loom.route(1, 12, 6, 1, 1);
        CHECK.is("section 2: it comes to its target for the sixth time", loom.run(2), 0);
        CHECK.is("section 2: there its age does not matter", loom.ofNode(2, 3), 1);
    }

    /** Lost by its age at a translator: the note is for its own source, and nothing is noted there. */
    private static void ageAheadOfTranslation() {
        NetLoom loom = loop(40);
        loom.node(20);
        loom.link(2, 0, 8, 1);
        loom.route(2, 40, 6, 1, 1);
        loom.route(0, 20, 6, 1, 1);
        loom.route(1, 20, 6, 0, 1);
        loom.plain(2, 40, 1, 1);
        loom.run(6);
        loom.translator(1, 20, 6);
        CHECK.is("section 2: at node 1 for the third time", loom.run(1), 1);
        CHECK.is("24 by its age", loom.lost(4), 1);
        CHECK.is("section 2: not translated", loom.ofNode(1, 9), 0);
        loom.run(2);
        CHECK.is("section 2: the note came to its source", loom.ofNode(2, 5), 1);
        CHECK.is("section 2: of loss 4", loom.ofNode(2, 6), 4);
    }

    private static void ageOfFragments() {
        NetLoom loom = Nets.line(2, 3, 1);
        loom.route(0, 40, 6, 0, 1);
        loom.route(1, 40, 6, 0, 1);
        loom.plain(0, 40, 1, 8);
        CHECK.is("section 2: each of three", loom.run(20), 3);
        CHECK.is("24 by its age", loom.lost(4), 3);
        CHECK.is("section 2: each has its note", loom.ofNode(0, 5), 3);
        CHECK.is("section 2: of the one id", loom.ofNode(0, 7), 0);
        CHECK.is("26 made were one and three", loom.many(4), 4);
    }

    private static void ageOfNotes() {
        NetLoom loom = Nets.line(3, 8, 1);
        loom.route(0, 40, 6, 0, 1);
        loom.route(1, 10, 6, 1, 1);
        loom.route(2, 10, 6, 1, 1);
        loom.plain(0, 40, 1, 1);
        CHECK.is("section 2: the packet without a route, then the note by its age", loom.run(20), 2);
        CHECK.is("24 the packet", loom.lost(0), 1);
        CHECK.is("24 the note", loom.lost(4), 1);
        CHECK.is("section 2: of which there is no note", loom.many(4), 2);
    }

    // ---- notes

    private static void noteWithoutLetters() {
        NetLoom loom = Nets.talkedLine(2, 8, 1);
        loom.route(0, 40, 6, 0, 1);
        loom.mark(0, false, 2, true);
        loom.plain(0, 11, 1, 1);
        loom.plain(0, 40, 1, 8);
        loom.plain(0, 40, 2, 8);
        loom.run(3);
        CHECK.is("section 2: of the two that came at once, one note left", loom.ofLink(0, true, 3), 1);
        CHECK.is("section 2: one is in the row", loom.ofLink(0, true, 1), 1);
        CHECK.is("section 2: without letters", loom.ofLink(0, true, 5), 0);
        loom.run(3);
        CHECK.is("18 notes", loom.ofNode(0, 5), 3);
        CHECK.is("18 its mark is the loss", loom.ofNode(0, 6), 0);
        CHECK.is("18 its number is the id", loom.ofNode(0, 7), 2);
    }

    private static void noNoteOfOtherLosses() {
        NetLoom loom = Nets.talkedLine(2, 2, 2);
        loom.plain(0, 11, 1, 8);
        loom.plain(0, 11, 2, 4);
        CHECK.is("24 loss 1", loom.lost(1), 1);
        loom.mark(0, false, 1, false);
        loom.run(1);
        CHECK.is("24 loss 2", loom.lost(2), 1);
        loom.run(1);
        loom.up(0, false);
        CHECK.is("24 loss 3", loom.lost(3), 1);
        loom.up(0, true);
        loom.run(3);
        loom.filter(1, 10, 6, 0, 0, 0, false, false);
        loom.run(3);
        CHECK.is("24 loss 6", loom.lost(6), 2);
        loom.run(12);
        CHECK.is("24 loss 5", loom.lost(5), 1);
        CHECK.is("section 2: no notes of these", loom.many(4), 2);
        CHECK.is("18 none is got", loom.ofNode(0, 5), 0);
    }

    private static void noteOfNoNote() {
        NetLoom loom = Nets.line(2, 8, 1);
        loom.route(0, 40, 6, 0, 1);
        loom.plain(0, 40, 1, 1);
        CHECK.is("section 2: it, and then its note", loom.run(2), 2);
        CHECK.is("24 both have no route", loom.lost(0), 2);
        CHECK.is("section 2: no third", loom.many(4), 2);
    }

    private static void ackWithoutWayBack() {
        NetLoom loom = Nets.line(2, 8, 1);
        loom.route(0, 11, 6, 0, 1);
        loom.stream(0, 11, 4);
        loom.write(0, 1);
        CHECK.is("section 2: the ack has no route", loom.run(2), 1);
        CHECK.is("section 3: the letter is got", loom.ofStream(0, 5), 1);
        CHECK.is("section 2: the ack's note is got at once, where it was made", loom.ofNode(1, 5), 1);
        CHECK.is("section 2: its number is the id of the ack", loom.ofNode(1, 7), 1);
        CHECK.is("26 made: data, ack, note", loom.many(4), 3);
        CHECK.is("section 3: not told, as it is no data of it", loom.ofStream(0, 9), 0);
    }

    // ---- got fragments

    private static void wholesBySourceAndId() {
        NetLoom loom = Nets.talkedLine(3, 4, 1);
        loom.plain(0, 11, 1, 8);
        loom.plain(2, 11, 2, 8);
        loom.mark(0, false, 2, false);
        loom.run(2);
        CHECK.is("18 two wholes", loom.ofNode(1, 8), 2);
        CHECK.is("26 of each one fragment", loom.many(7), 2);
        loom.run(1);
        CHECK.is("section 2: the second one is there", loom.ofNode(1, 4), 2);
        CHECK.is("18 the first one is kept on", loom.ofNode(1, 8), 1);
        loom.plain(0, 12, 3, 8);
        loom.plain(0, 12, 4, 8);
        loom.mark(1, false, 2, false);
        loom.run(9);
        CHECK.is("section 2: of one source, by the id", loom.ofNode(2, 4), 4);
        CHECK.is("18 the other one is kept", loom.ofNode(2, 8), 1);
        CHECK.is("26 at both nodes", loom.many(7), 2);
        CHECK.is("section 2: lost is that of node 1", loom.run(2), 1);
        CHECK.is("26 that at node 2 is not", loom.many(7), 1);
        halfTranslated();
    }

    /** The one that is kept first is there, or too old, first: the other one is kept on. */
    private static void wholesInAnyOrder() {
        NetLoom loom = Nets.line(2, 2, 1);
        loom.node(12);
        loom.link(1, 2, 4, 1);
        loom.talk();
        loom.plain(0, 11, 1, 6);
        loom.plain(2, 11, 9, 0);
        loom.plain(2, 11, 2, 8);
        loom.run(3);
        CHECK.is("18 two wholes", loom.ofNode(1, 8), 2);
        loom.run(1);
        CHECK.is("section 2: in 4 the one, and then the other one", loom.ofNode(1, 3), 3);
        CHECK.is("section 2: from node 2", loom.ofNode(1, 4), 2);
        CHECK.is("26 none is kept", loom.many(7), 0);
        loom.mark(0, false, 2, false);
        loom.plain(0, 11, 3, 4);
        loom.run(12);
        loom.plain(2, 11, 4, 8);
        CHECK.is("17 the older one is lost in 18", loom.run(1) + 10 * loom.run(1), 10);
        CHECK.is("18 the newer one came in 18", loom.ofNode(1, 8), 1);
        loom.run(1);
        CHECK.is("section 2: and is whole in 19", loom.ofNode(1, 4), 4);
    }

    private static void halfTranslated() {
        NetLoom loom = Nets.talkedLine(3, 4, 1);
        loom.plain(0, 12, 5, 8);
        loom.run(2);
        loom.translator(1, 10, 6);
        loom.run(3);
        CHECK.is("section 2: one id of two sources", loom.ofNode(2, 8), 2);
        CHECK.is("section 2: never whole", loom.ofNode(2, 3), 0);
        CHECK.is("24 each is lost", loom.run(12) + 10 * loom.lost(5), 22);
    }

    private static void wholeOfEachLetter() {
        for (int missing = 1; missing <= 4; missing++) {
            NetLoom loom = Nets.talkedLine(2, 2, 1);
            loom.plain(0, 11, 1, 8);
            loom.run(5);
            CHECK.is("section 2: one ahead of it is whole", loom.ofNode(1, 3), 1);
            loom.mark(0, false, missing, false);
            loom.plain(0, 11, 1, 8);
            loom.run(5);
            CHECK.is("section 2: without piece " + missing, loom.ofNode(1, 3), 1);
            CHECK.is("section 2: three are kept", loom.many(7), 3);
            loom.plain(0, 11, 1, 4);
            loom.run(3);
            CHECK.is("section 2: another one is", loom.ofNode(1, 3), 2);
            loom.run(12);
            CHECK.is("24 one whole is lost", loom.lost(5), 1);
        }
    }

    /** Its first fragment comes in tick 3; the second one waits in a row, till the link is up again. */
    private static NetLoom halfThere(int ticksDown) {
        NetLoom loom = Nets.talkedLine(3, 4, 1);
        loom.plain(0, 12, 1, 8);
        loom.run(2);
        loom.plain(1, 12, 2, 0);
        loom.run(1);
        loom.up(1, false);
        CHECK.is("section 2: the one ahead of it is lost", loom.lost(3), 1);
        CHECK.is("section 2: its second half is in the row", loom.ofLink(1, false, 5), 4);
        CHECK.is("section 2: its first one is kept", loom.many(7), 1);
        loom.run(ticksDown);
        loom.up(1, true);
        return loom;
    }

    private static void fragmentInTheTwelfthTick() {
        NetLoom loom = halfThere(10);
        CHECK.is("section 2: it comes in tick 15, ahead of step 2", loom.run(2), 0);
        CHECK.is("section 2: so it is whole", loom.ofNode(2, 3), 1);
        CHECK.isMean("27 on its way since it was made", loom.meanTime(), 15.0);
    }

    private static void fragmentInTheThirteenthTick() {
        NetLoom loom = halfThere(11);
        CHECK.is("section 2: lost in tick 15", loom.run(1), 1);
        CHECK.is("24 so", loom.lost(5), 1);
        CHECK.is("section 2: what comes in tick 16 is a first one", loom.run(12), 0);
        CHECK.is("section 2: not got", loom.ofNode(2, 3), 0);
        CHECK.is("section 2: lost in tick 28", loom.run(1), 1);
        CHECK.is("24 so, once more", loom.lost(5), 2);
    }

    private static void fragmentsOfNodeZero() {
        NetLoom loom = Nets.talkedLine(2, 4, 1);
        loom.mark(0, true, 2, false);
        loom.mark(0, false, 1, false);
        loom.plain(1, 10, 1, 8);
        loom.plain(0, 11, 1, 8);
        loom.run(3);
        CHECK.is("26 kept at both", loom.many(7), 2);
        CHECK.is("section 2: that of node 0, too, is lost in 14, that of node 1 in 15", loom.run(11), 1);
        CHECK.is("18 none at node 0", loom.ofNode(0, 8), 0);
        CHECK.is("18 one at node 1", loom.ofNode(1, 8), 1);
    }

    private static void lastOneIsTold() {
        NetLoom loom = Nets.talkedLine(2, 8, 1);
        CHECK.is("18 no plain one yet", loom.ofNode(1, 4), -1);
        CHECK.is("18 no note yet", loom.ofNode(1, 6) + loom.ofNode(1, 7), -2);
        loom.plain(0, 11, 99, 1);
        loom.plain(0, 11, 0, 1);
        loom.run(2);
        CHECK.is("18 the first one", loom.ofNode(1, 4), 99);
        loom.run(1);
        CHECK.is("18 the last one", loom.ofNode(1, 4), 0);
        loom.plain(1, 40, 7, 1);
        loom.plain(1, 40, 8, 1);
        CHECK.is("18 two notes", loom.ofNode(1, 5), 2);
        CHECK.is("18 mark of the last one", loom.ofNode(1, 6), 0);
        CHECK.is("18 its number", loom.ofNode(1, 7), 4);
        CHECK.is("18 a note is no plain one", loom.ofNode(1, 3), 2);
        CHECK.is("18 at node 0 none", loom.ofNode(0, 3) + loom.ofNode(0, 5), 0);
    }

    // ---- a tick

    private static void delays() {
        for (int delay = 1; delay <= 3; delay++) {
            NetLoom loom = Nets.talkedLine(2, 8, delay);
            loom.plain(0, 11, 1, 1);
            loom.run(delay);
            CHECK.is("section 2: it left in tick 1", loom.ofLink(0, false, 3), 1);
            CHECK.is("section 2: on the way", loom.ofLink(0, false, 2), 1);
            loom.run(1);
            CHECK.is("section 2: came " + delay + " later", loom.ofNode(1, 3), 1);
            CHECK.is("section 2: none on the way", loom.many(6), 0);
            CHECK.isMean("27 its time", loom.meanTime(), delay + 1.0);
        }
    }

    private static void oneLeavesInATick() {
        NetLoom loom = Nets.talkedLine(2, 8, 3);
        CHECK.is("26 now is 0", loom.many(3), 0);
        loom.run(3);
        CHECK.is("21 nothing leaves an empty row", loom.ofLink(0, false, 3), 0);
        for (int i = 0; i < 5; i++) {
            loom.plain(0, 11, i, 0);
            loom.plain(1, 10, i, 0);
        }
        for (int i = 1; i <= 5; i++) {
            loom.run(1);
            CHECK.is("26 now is one more", loom.many(3), 3 + i);
            CHECK.is("21 one more left", loom.ofLink(0, false, 3), i);
            CHECK.is("21 and back", loom.ofLink(0, true, 3), i);
            CHECK.is("26 in both rows", loom.many(5), 10 - 2 * i);
            CHECK.is("26 on the way, both ways", loom.many(6), 2 * Math.min(i, 3));
        }
        loom.run(3);
        CHECK.is("section 2: all came", loom.ofNode(0, 3) + loom.ofNode(1, 3), 10);
    }

    /** Two come from each end in one tick, and are lost: the notes at the other end are made first. */
    private static void orderOfDirections() {
        NetLoom loom = Nets.line(2, 8, 1);
        loom.route(0, 40, 6, 0, 1);
        loom.route(1, 41, 6, 0, 1);
        loom.route(0, 11, 6, 0, 1);
        loom.route(1, 10, 6, 0, 1);
        loom.mark(0, false, 1, true);
        loom.mark(0, true, 1, true);
        loom.plain(1, 41, 1, 1);
        loom.plain(0, 40, 1, 1);
        loom.run(2);
        CHECK.is("section 2: of node 1 the notes 2 and 3", loom.ofLink(0, true, 4), 3);
        CHECK.is("section 2: of node 0 the notes 4 and 5", loom.ofLink(0, false, 4), 5);
    }

    /** The same over two links: what comes over link 0, even back, is ahead of what comes over link 1. */
    private static void orderOfLinks() {
        NetLoom loom = Nets.line(4, 8, 1);
        loom.route(1, 40, 6, 0, 1);
        loom.route(2, 40, 6, 2, 1);
        loom.route(3, 12, 6, 2, 1);
        loom.route(0, 11, 6, 0, 1);
        loom.mark(0, true, 1, true);
        loom.mark(2, false, 1, true);
        loom.plain(2, 40, 1, 1);
        loom.plain(1, 40, 1, 1);
        loom.run(2);
        CHECK.is("section 2: at node 0 the notes 2 and 3", loom.ofLink(0, false, 4), 3);
        CHECK.is("section 2: at node 3 the notes 4 and 5", loom.ofLink(2, true, 4), 5);
    }

    private static void madeInStepThreeLeavesInStepFour() {
        NetLoom loom = Nets.talkedLine(2, 8, 1);
        loom.stream(0, 11, 4);
        loom.write(0, 1);
        CHECK.is("section 3: not before a tick", loom.many(4), 0);
        loom.run(1);
        CHECK.is("section 2: the data left in the same tick", loom.ofLink(0, false, 2), 1);
        loom.run(1);
        CHECK.is("section 2: the ack, too", loom.ofLink(0, true, 2), 1);
        loom.write(0, 2);
        loom.run(1);
        CHECK.is("section 2: the ack comes in step 1, so none is on the way in step 3", loom.ofStream(0, 7), 9);
    }

    // ---- what is told to become of those that leave

    private static void marksOfOneAndTwenty() {
        int[] numbers = {1, 2, 19, 20};
        for (int number : numbers) {
            for (int doubled = 0; doubled <= 1; doubled++) {
                boolean isDoubled = doubled == 1;
                NetLoom loom = Nets.talkedLine(2, 8, 1);
                loom.plain(0, 11, 1, 0);
                loom.run(1);
                CHECK.is("5 one left so far", loom.mark(0, false, number, isDoubled), 1);
                for (int i = 1; i <= 22; i++) {
                    loom.plain(0, 11, 1, 0);
                    CHECK.is("5 lost", loom.run(1), i == number && !isDoubled ? 1 : 0);
                    int onTheWay = i != number ? 1 : isDoubled ? 2 : 0;
                    CHECK.is("5 on the way, number " + i, loom.ofLink(0, false, 2), onTheWay);
                }
                CHECK.is("21 each left once", loom.ofLink(0, false, 3), 23);
                loom.run(1);
                CHECK.is("5 came", loom.ofNode(1, 3), isDoubled ? 24 : 22);
            }
        }
    }

    private static void marksAreUsedOnce() {
        NetLoom loom = Nets.talkedLine(2, 8, 1);
        for (int many = 1; many <= 20; many++) {
            loom.mark(0, false, many, false);
        }
        for (int i = 1; i <= 42; i++) {
            loom.plain(0, 11, 1, 0);
            CHECK.is("5 only the first twenty are lost, number " + i, loom.run(1), i <= 20 ? 1 : 0);
        }
        CHECK.is("24 twenty", loom.lost(2), 20);
    }

    private static void marksToldAgain() {
        NetLoom loom = Nets.talkedLine(2, 8, 1);
        loom.mark(0, false, 2, true);
        loom.mark(0, false, 2, false);
        loom.mark(0, false, 3, false);
        loom.plain(0, 11, 1, 0);
        CHECK.is("section 2: as it is", loom.run(1), 0);
        CHECK.is("5 number 3 is the second one from now on", loom.mark(0, false, 2, true), 1);
        loom.plain(0, 11, 2, 0);
        CHECK.is("section 2: what was told last holds: lost", loom.run(1), 1);
        loom.plain(0, 11, 3, 0);
        CHECK.is("section 2: what was told last holds: doubled", loom.run(1), 0);
        CHECK.is("section 2: both are on the way", loom.ofLink(0, false, 2), 2);
    }

    private static void marksOfDirections() {
        NetLoom loom = Nets.talkedLine(3, 8, 1);
        loom.mark(1, true, 1, false);
        loom.plain(0, 12, 1, 0);
        loom.plain(1, 12, 1, 0);
        CHECK.is("5 neither over another link, nor in the other direction", loom.run(5), 0);
        loom.plain(2, 10, 1, 0);
        CHECK.is("5 as it was told", loom.run(5), 1);
        CHECK.is("21 it left", loom.ofLink(1, true, 3), 1);
        CHECK.is("21 it did not come", loom.ofLink(0, true, 3), 0);
        CHECK.is("5 left so far", loom.mark(1, true, 1, true), 1);
        loom.up(1, false);
        loom.up(1, true);
        loom.plain(2, 11, 1, 0);
        loom.run(1);
        CHECK.is("5 it holds, though the link was down", loom.ofLink(1, true, 2), 2);
    }

    private static void wayIsFull() {
        NetLoom loom = Nets.talkedLine(2, 8, 3);
        for (int many = 1; many <= 4; many++) {
            loom.mark(0, false, many, true);
            loom.mark(0, true, many, true);
            loom.plain(0, 11, many, 0);
            loom.plain(1, 10, many, 0);
        }
        int[] due = {2, 4, 6, 6, 4, 2, 0};
        for (int i = 0; i < due.length; i++) {
            loom.run(1);
            CHECK.is("21 on the way there in tick " + (i + 1), loom.ofLink(0, false, 2), due[i]);
            CHECK.is("21 on the way back in tick " + (i + 1), loom.ofLink(0, true, 2), due[i]);
            CHECK.is("26 on the way in tick " + (i + 1), loom.many(6), 2 * due[i]);
            if (i == 2) {
                CHECK.is("30 all would be lost", loom.lostWithout(0, 1), 12);
            }
        }
        CHECK.is("section 2: each came twice", loom.ofNode(0, 3) + loom.ofNode(1, 3), 16);
        CHECK.is("section 2: as they left", loom.ofNode(1, 4), 4);
    }

    private static void downAndUp() {
        NetLoom loom = Nets.talkedLine(3, 8, 3);
        CHECK.is("4 nothing on the way", loom.up(0, false), 0);
        CHECK.is("4 down as it was", loom.up(0, false), 0);
        CHECK.is("4 up", loom.up(0, true), 0);
        for (int i = 0; i < 5; i++) {
            loom.plain(0, 11, i, 1);
            loom.plain(1, 12, i, 1);
        }
        loom.run(3);
        CHECK.is("4 up as it was", loom.up(0, true), 0);
        CHECK.is("26 on the way over both", loom.many(6), 6);
        CHECK.is("4 what is on the way over this one", loom.up(0, false), 3);
        CHECK.is("26 over the other one", loom.many(6), 3);
        CHECK.is("4 rows stay", loom.ofLink(0, false, 1), 2);
        loom.run(9);
        CHECK.is("4 nothing leaves", loom.ofLink(0, false, 1), 2);
        loom.up(0, true);
        loom.run(1);
        CHECK.is("4 it leaves again", loom.ofLink(0, false, 1), 1);
        CHECK.is("4 once more", loom.up(0, false), 1);
        CHECK.is("24 all of them", loom.lost(3), 4);
        loom.up(0, true);
        loom.run(4);
        CHECK.is("4 the last one comes", loom.ofNode(1, 4), 4);
        CHECK.is("4 it alone", loom.ofNode(1, 3), 1);
    }

    /** All kinds of loss in one run, each told by lost(), and by run() as one sum. */
    private static void runsOfAllLosses() {
        NetLoom loom = Nets.line(3, 2, 1);
        loom.route(0, 12, 6, 0, 1);
        loom.route(1, 12, 6, 1, 1);
        loom.route(0, 40, 6, 0, 1);
        loom.route(0, 50, 6, 0, 1);
        loom.route(1, 50, 6, 0, 1);
        loom.route(1, 10, 6, 0, 1);
        loom.filter(1, 10, 6, 40, 6, -1, false, false);
        loom.plain(0, 40, 1, 0);
        loom.plain(0, 50, 1, 0);
        loom.plain(0, 12, 2, 6);
        loom.mark(0, false, 3, false);
        loom.mark(1, false, 1, true);
        CHECK.is("17 nothing yet", loom.run(1), 0);
        CHECK.is("17 dropped in 2", loom.run(1), 1);
        CHECK.is("17 as told in 3", loom.run(1), 1);
        CHECK.is("17 that to 50 goes to and fro till 9, and waits behind the fragments in between", loom.run(6), 0);
        CHECK.is("17 its age is 0 in 10", loom.run(1), 1);
        CHECK.is("17 the fragments, of which the first came in 6, stay till 17", loom.run(7), 0);
        CHECK.is("17 lost in 18", loom.run(1), 1);
        int[] due = {0, 0, 1, 0, 1, 1, 1};
        for (int loss = 0; loss <= 6; loss++) {
            CHECK.is("24 of kind " + loss, loom.lost(loss), due[loss]);
        }
        CHECK.is("17 none without packets", loom.run(60), 0);
    }
}
