/** Promises 13 to 17: what is sent, and what becomes of it in the ticks. */
public final class SentTest {
    private static final Class<?> INDEX = IndexOutOfBoundsException.class;
    private static final Class<?> ARGUMENT = IllegalArgumentException.class;
    private static final Class<?> STATE = IllegalStateException.class;
    private static final Check CHECK = new Check("SentTest");

    public static void main(String[] args) {
        plain();
        plainIsCut();
        rowIsFull();
        lostWithoutRoute();
        ageIsOver();
        noteIsTranslatedNoMore();
        fragmentsAreLost();
        fragmentsThatComeTwice();
        orderOfComing();
        stream();
        write();
        end();
        run();
        windows();
        alarms();
        broken();
        acknowledged();
        keptBeyond();
        told();
        CHECK.end();
    }

    private static void plain() {
        NetLoom loom = Nets.talkedLine(3, 8, 2);
        CHECK.refuses("13 no node", loom, INDEX, () -> loom.plain(3, 64, 0, 0));
        CHECK.refuses("13 target 64", loom, ARGUMENT, () -> loom.plain(0, 64, 0, 0));
        CHECK.refuses("13 target -1", loom, ARGUMENT, () -> loom.plain(0, -1, 0, 0));
        CHECK.refuses("13 mark 100", loom, ARGUMENT, () -> loom.plain(0, 0, 100, 0));
        CHECK.refuses("13 mark -1", loom, ARGUMENT, () -> loom.plain(0, 0, -1, 0));
        CHECK.refuses("13 size 9", loom, ARGUMENT, () -> loom.plain(0, 0, 0, 9));
        CHECK.refuses("13 size -1", loom, ARGUMENT, () -> loom.plain(0, 0, 0, -1));
        CHECK.is("13 first id", loom.plain(0, 12, 99, 8), 0);
        CHECK.is("13 second id", loom.plain(0, 12, 0, 0), 1);
        CHECK.is("13 in the row", loom.ofLink(0, false, 1), 2);
        CHECK.is("13 letters in the row", loom.ofLink(0, false, 5), 8);
        CHECK.is("13 to itself", loom.plain(1, 11, 5, 8), 2);
        CHECK.is("13 is got at once", loom.ofNode(1, 4), 5);
        loom.run(4);
        CHECK.is("13 leaves in 1, comes in 3, leaves in 3, is not there in 4", loom.ofNode(2, 3), 0);
        loom.run(1);
        CHECK.is("13 comes in 5", loom.ofNode(2, 4), 99);
        loom.run(1);
        CHECK.is("13 the other one behind it", loom.ofNode(2, 4), 0);
        CHECK.is("13 two", loom.ofNode(2, 3), 2);
        CHECK.is("13 none is lost", loom.many(4), 3);
    }

    private static void plainIsCut() {
        NetLoom loom = new NetLoom();
        loom.node(1);
        loom.node(2);
        loom.node(3);
        loom.link(0, 1, 5, 1);
        loom.link(1, 2, 2, 1);
        loom.talk();
        loom.talk();
        loom.plain(0, 3, 4, 8);
        CHECK.is("section 2: cut in 5 and 3", loom.ofLink(0, false, 1), 2);
        CHECK.is("section 2: letters", loom.ofLink(0, false, 5), 8);
        loom.run(2);
        CHECK.is("section 2: the first one is cut in 2, 2 and 1, one left", loom.ofLink(1, false, 1), 2);
        CHECK.is("section 2: with the same id", loom.ofLink(1, false, 4), 0);
        loom.run(4);
        CHECK.is("section 2: four of five are there", loom.many(7), 4);
        CHECK.is("section 2: of one whole", loom.ofNode(2, 8), 1);
        CHECK.is("section 2: that is not got", loom.ofNode(2, 3), 0);
        loom.run(1);
        CHECK.is("section 2: got", loom.ofNode(2, 4), 4);
        CHECK.is("section 2: once", loom.ofNode(2, 3), 1);
        CHECK.is("section 2: none is kept", loom.many(7), 0);
        CHECK.isMean("section 2: its time", loom.meanTime(), 7.0);
    }

    private static void rowIsFull() {
        NetLoom loom = Nets.talkedLine(2, 2, 1);
        loom.plain(0, 11, 1, 8);
        loom.plain(0, 11, 2, 3);
        CHECK.is("section 2: five are in the row", loom.ofLink(0, false, 1), 5);
        CHECK.is("section 2: a sixth is lost", loom.lost(1), 1);
        CHECK.is("section 2: without a note", loom.many(4), 2);
        loom.plain(1, 10, 3, 1);
        CHECK.is("section 2: the other direction has a row of its own", loom.lost(1), 1);
        CHECK.is("section 2: of the lost ones run tells its own", loom.run(6), 0);
        CHECK.is("section 2: the first came", loom.ofNode(1, 4), 1);
        CHECK.is("section 2: of the second a part", loom.ofNode(1, 8), 1);
    }

    private static void lostWithoutRoute() {
        NetLoom loom = Nets.line(3, 8, 1);
        loom.route(0, 12, 6, 0, 1);
        loom.route(1, 10, 6, 0, 1);
        CHECK.is("section 2: id", loom.plain(2, 10, 9, 1), 0);
        CHECK.is("section 2: lost", loom.lost(0), 1);
        CHECK.is("section 2: a note, got at once", loom.ofNode(2, 5), 1);
        CHECK.is("section 2: of loss 0", loom.ofNode(2, 6), 0);
        CHECK.is("section 2: of id 0", loom.ofNode(2, 7), 0);
        loom.plain(0, 12, 8, 1);
        CHECK.is("section 2: lost at node 1", loom.run(2), 1);
        CHECK.is("section 2: the note is on its way", loom.ofNode(0, 5), 0);
        loom.run(1);
        CHECK.is("section 2: the note came", loom.ofNode(0, 5), 1);
        CHECK.is("section 2: of id 2", loom.ofNode(0, 7), 2);
        CHECK.is("section 2: made were two and a note of each", loom.many(4), 4);
        loom.unroute(1, 0);
        loom.plain(0, 12, 8, 1);
        CHECK.is("section 2: the note is lost, too, without another one", loom.run(9), 2);
        CHECK.is("section 2: six", loom.many(4), 6);
    }

    private static void ageIsOver() {
        NetLoom loom = Nets.line(2, 8, 1);
        loom.route(0, 40, 6, 0, 1);
        loom.route(1, 40, 6, 0, 1);
        loom.talk();
        loom.plain(0, 40, 1, 1);
        CHECK.is("section 2: it comes for the fifth time in 6", loom.run(6), 0);
        CHECK.is("section 2: for the sixth in 7", loom.run(1), 1);
        CHECK.is("section 2: its age is over", loom.lost(4), 1);
        CHECK.is("section 2: at node 0, so the note is got there", loom.ofNode(0, 5), 1);
        CHECK.is("section 2: of loss 4", loom.ofNode(0, 6), 4);
        CHECK.is("section 2: of id 0", loom.ofNode(0, 7), 0);
        NetLoom seven = new NetLoom();
        for (int i = 0; i < 6; i++) {
            seven.node(i);
        }
        for (int i = 0; i < 5; i++) {
            seven.link(i, i + 1, 8, 1);
        }
        for (int i = 0; i < 5; i++) {
            seven.talk();
        }
        seven.plain(0, 5, 1, 1);
        CHECK.is("section 2: five links are not too many", seven.run(6), 0);
        CHECK.is("section 2: it came", seven.ofNode(5, 3), 1);
    }

    private static void noteIsTranslatedNoMore() {
        NetLoom loom = Nets.line(2, 8, 1);
        loom.route(0, 40, 6, 0, 1);
        loom.route(1, 10, 6, 0, 1);
        loom.translator(1, 10, 6);
        loom.plain(0, 40, 1, 1);
        loom.run(5);
        CHECK.is("section 2: its source was the translator as it was lost", loom.ofNode(1, 5), 1);
        CHECK.is("section 2: so the other one has no note", loom.ofNode(0, 5), 0);
    }

    private static void fragmentsAreLost() {
        NetLoom loom = Nets.talkedLine(2, 2, 1);
        loom.mark(0, false, 3, false);
        loom.plain(0, 11, 1, 6);
        CHECK.is("section 2: the last one is lost", loom.run(3), 1);
        CHECK.is("section 2: two are kept", loom.many(7), 2);
        CHECK.is("section 2: the first one came in 2: there in 13", loom.run(10), 0);
        CHECK.is("section 2: still kept", loom.ofNode(1, 8), 1);
        CHECK.is("section 2: lost in 14, once", loom.run(1), 1);
        CHECK.is("section 2: of loss 5", loom.lost(5), 1);
        CHECK.is("section 2: none is kept", loom.many(7), 0);
        CHECK.is("section 2: no note of that", loom.many(4), 1);
    }

    private static void fragmentsThatComeTwice() {
        NetLoom loom = Nets.talkedLine(2, 2, 1);
        loom.mark(0, false, 1, true);
        loom.mark(0, false, 2, true);
        loom.plain(0, 11, 1, 4);
        loom.run(2);
        CHECK.is("26 one that came twice is kept twice", loom.many(7), 2);
        CHECK.is("section 2: of one whole", loom.ofNode(1, 8), 1);
        loom.run(1);
        CHECK.is("section 2: got", loom.ofNode(1, 3), 1);
        CHECK.is("section 2: what came behind the whole is kept anew", loom.many(7), 1);
        CHECK.is("section 2: till it is too old", loom.run(12), 1);
        CHECK.is("section 2: got but once", loom.ofNode(1, 3), 1);
    }

    private static void orderOfComing() {
        NetLoom loom = new NetLoom();
        for (int i = 0; i < 3; i++) {
            loom.node(i);
        }
        loom.link(0, 1, 8, 1);
        loom.link(1, 2, 8, 1);
        loom.talk();
        loom.plain(2, 1, 22, 0);
        loom.plain(0, 1, 11, 0);
        loom.run(2);
        CHECK.is("section 2: that over link 1 comes last", loom.ofNode(1, 4), 22);
        NetLoom both = new NetLoom();
        both.node(0);
        both.node(1);
        both.link(0, 1, 8, 1);
        both.link(1, 0, 8, 1);
        both.route(0, 1, 6, 1, 1);
        both.plain(0, 1, 33, 0);
        both.unroute(0, 0);
        both.route(0, 1, 6, 0, 1);
        both.plain(0, 1, 44, 0);
        both.run(2);
        CHECK.is("section 2: by links, there as back", both.ofNode(1, 4), 33);
    }

    private static void stream() {
        NetLoom loom = Nets.talkedLine(3, 8, 1);
        CHECK.refuses("14 no node", loom, INDEX, () -> loom.stream(3, 64, 3));
        CHECK.refuses("14 no such address", loom, ARGUMENT, () -> loom.stream(0, 13, 4));
        CHECK.refuses("14 no address at all", loom, ARGUMENT, () -> loom.stream(0, -1, 4));
        CHECK.refuses("14 its own", loom, ARGUMENT, () -> loom.stream(0, 10, 4));
        CHECK.refuses("14 window 3", loom, ARGUMENT, () -> loom.stream(0, 12, 3));
        CHECK.refuses("14 window 13", loom, ARGUMENT, () -> loom.stream(0, 12, 13));
        for (int i = 0; i < 4; i++) {
            CHECK.is("14 stream", loom.stream(i % 3, 10 + (i + 1) % 3, 4 + i), i);
            CHECK.is("14 window", loom.ofStream(i, 4), 4 + i);
        }
        CHECK.refuses("14 a fifth", loom, STATE, () -> loom.stream(0, 12, 12));
        CHECK.refuses("14 a fifth of window 3", loom, ARGUMENT, () -> loom.stream(0, 12, 3));
        CHECK.is("14 sends nothing of itself", loom.run(9), 0);
        CHECK.is("14 nothing made", loom.many(4), 0);
    }

    private static void write() {
        NetLoom loom = Nets.talkedLine(2, 8, 1);
        loom.stream(0, 11, 4);
        CHECK.refuses("15 no stream", loom, INDEX, () -> loom.write(1, 10));
        CHECK.refuses("15 letter 10", loom, ARGUMENT, () -> loom.write(0, 10));
        CHECK.refuses("15 letter -1", loom, ARGUMENT, () -> loom.write(0, -1));
        for (int i = 1; i <= 30; i++) {
            CHECK.is("15 write", loom.write(0, i % 10), i);
        }
        CHECK.refuses("15 a 31st", loom, STATE, () -> loom.write(0, 0));
        CHECK.refuses("15 a 31st that is none", loom, ARGUMENT, () -> loom.write(0, 10));
        loom.run(60);
        CHECK.is("15 all came", loom.ofStream(0, 5), 30);
        for (int k = 0; k < 30; k++) {
            CHECK.is("15 letter", loom.letter(0, k), (k + 1) % 10);
        }
        loom.stream(1, 10, 4);
        loom.write(1, 1);
        loom.end(1);
        CHECK.refuses("15 ended", loom, STATE, () -> loom.write(1, 1));
        CHECK.refuses("15 ended, no letter", loom, ARGUMENT, () -> loom.write(1, 11));
    }

    private static void end() {
        NetLoom loom = Nets.talkedLine(2, 8, 1);
        loom.stream(0, 11, 4);
        loom.stream(0, 11, 4);
        CHECK.refuses("16 no stream", loom, INDEX, () -> loom.end(2));
        Nets.write(loom, 0, 6);
        CHECK.is("16 six are not sure", loom.end(0), 6);
        CHECK.is("16 ended", loom.ofStream(0, 0), 1);
        CHECK.refuses("16 ended once more", loom, STATE, () -> loom.end(0));
        loom.stream(1, 10, 4);
        Nets.write(loom, 2, 3);
        loom.run(3);
        Nets.write(loom, 2, 2);
        CHECK.is("16 three of five are sure", loom.end(2), 2);
        CHECK.is("16 nothing to be sure of", loom.end(1), 0);
        CHECK.is("16 over at once", loom.ofStream(1, 0), 2);
        CHECK.is("16 it sends on", loom.ofStream(0, 2), 6);
        loom.run(4);
        CHECK.is("16 over, as all is sure", loom.ofStream(0, 0), 2);
        CHECK.refuses("16 over", loom, STATE, () -> loom.end(0));
        CHECK.refuses("16 no letter more", loom, STATE, () -> loom.write(0, 1));
    }

    private static void run() {
        NetLoom loom = Nets.talkedLine(2, 8, 1);
        CHECK.refuses("17 no ticks", loom, ARGUMENT, () -> loom.run(0));
        CHECK.refuses("17 ticks -1", loom, ARGUMENT, () -> loom.run(-1));
        CHECK.refuses("17 ticks 61", loom, ARGUMENT, () -> loom.run(61));
        loom.run(60);
        loom.run(1);
        CHECK.is("17 now", loom.many(3), 61);
        loom.plain(0, 40, 1, 1);
        loom.filter(1, 0, 0, 0, 0, -1, false, false);
        loom.mark(0, false, 2, false);
        loom.plain(0, 11, 1, 1);
        loom.plain(0, 11, 2, 1);
        CHECK.is("17 lost in them, of each kind", loom.run(5), 2);
        CHECK.is("17 dropped", loom.lost(6), 1);
        CHECK.is("17 as told", loom.lost(2), 1);
        CHECK.is("17 ahead of them", loom.lost(0), 1);
    }

    private static void windows() {
        NetLoom loom = Nets.talkedLine(2, 8, 3);
        loom.stream(0, 11, 6);
        Nets.write(loom, 0, 20);
        loom.run(1);
        CHECK.is("section 3: as the window lets", loom.ofStream(0, 2), 6);
        CHECK.is("section 3: in data of 4 and 2", loom.many(4), 2);
        CHECK.is("section 3: the alarm is 6 ticks later", loom.ofStream(0, 7), 7);
        loom.run(2);
        CHECK.is("section 3: and no more", loom.ofStream(0, 2), 6);
        CHECK.is("section 3: came in 4", loom.sureIn(0, 1), 0);
        loom.run(1);
        CHECK.is("section 3: four are got", loom.ofStream(0, 5), 4);
        loom.run(3);
        CHECK.is("section 3: sure, ahead of the alarm of 7", loom.ofStream(0, 3), 4);
        CHECK.is("section 3: the window is not above its limit", loom.ofStream(0, 4), 6);
        CHECK.is("section 3: the alarm anew", loom.ofStream(0, 7), 13);
        CHECK.is("section 3: four more", loom.ofStream(0, 2), 10);
        NetLoom few = Nets.talkedLine(2, 8, 1);
        few.stream(0, 11, 12);
        Nets.write(few, 0, 3);
        few.run(1);
        CHECK.is("section 3: as many as there are", few.ofLink(0, false, 2), 1);
        few.run(2);
        CHECK.is("section 3: all are sure", few.ofStream(0, 3), 3);
        CHECK.is("section 3: no alarm", few.ofStream(0, 7), -1);
        CHECK.is("section 3: not ended", few.ofStream(0, 0), 0);
    }

    private static void alarms() {
        NetLoom loom = Nets.talkedLine(2, 8, 1);
        loom.stream(0, 11, 12);
        loom.mark(0, false, 1, false);
        loom.mark(0, false, 3, false);
        Nets.write(loom, 0, 12);
        loom.run(6);
        CHECK.is("section 3: the second one came", loom.ofStream(0, 6), 4);
        CHECK.is("section 3: none is got", loom.ofStream(0, 5), 0);
        CHECK.is("section 3: acks of 0 make nothing sure", loom.ofStream(0, 3), 0);
        CHECK.is("section 3: the window is whole", loom.ofStream(0, 4), 12);
        loom.mark(0, false, 1, false);
        loom.run(1);
        CHECK.is("section 3: the first four once more", loom.many(4), 5);
        CHECK.is("section 3: the window is half", loom.ofStream(0, 4), 6);
        CHECK.is("section 3: try 1", loom.ofStream(0, 8), 1);
        CHECK.is("section 3: 12 ticks later", loom.ofStream(0, 7), 19);
        loom.run(12);
        CHECK.is("section 3: try 2", loom.ofStream(0, 8), 2);
        CHECK.is("section 3: 24 ticks later", loom.ofStream(0, 7), 43);
        CHECK.is("section 3: the window is 4 at least", loom.ofStream(0, 4), 4);
        loom.run(2);
        CHECK.is("section 3: eight are sure", loom.ofStream(0, 3), 8);
        CHECK.is("section 3: the window is one more", loom.ofStream(0, 4), 5);
        CHECK.is("section 3: try 0", loom.ofStream(0, 8), 0);
        CHECK.is("section 3: the alarm is 6 ticks later", loom.ofStream(0, 7), 27);
        loom.run(8);
        CHECK.is("section 3: all are sure", loom.ofStream(0, 3), 12);
        CHECK.is("section 3: the window again", loom.ofStream(0, 4), 5);
    }

    private static void broken() {
        NetLoom loom = Nets.talkedLine(2, 8, 1);
        loom.stream(0, 11, 9);
        Nets.write(loom, 0, 2);
        loom.run(3);
        CHECK.is("section 3: two are sure", loom.ofStream(0, 3), 2);
        Nets.write(loom, 0, 5);
        loom.filter(0, 0, 0, 0, 0, 2, false, false);
        loom.run(60);
        CHECK.is("section 3: not a third time", loom.ofStream(0, 0), 3);
        CHECK.is("section 3: without an alarm", loom.ofStream(0, 7), -1);
        CHECK.is("section 3: try 2", loom.ofStream(0, 8), 2);
        CHECK.is("section 3: three data, and two times four letters once more", loom.ofLink(0, false, 3), 5);
        CHECK.is("section 3: all are got", loom.ofStream(0, 5), 7);
        CHECK.refuses("15 broken", loom, STATE, () -> loom.write(0, 1));
        CHECK.refuses("16 broken", loom, STATE, () -> loom.end(0));
        NetLoom late = Nets.talkedLine(2, 8, 1);
        late.stream(0, 11, 9);
        Nets.write(late, 0, 2);
        late.up(0, false);
        CHECK.is("section 3: no route over what is down", late.run(43), 3);
        CHECK.is("section 3: broken in 43", late.ofStream(0, 0), 3);
        late.stream(0, 11, 4);
        late.end(1);
        CHECK.is("section 3: the other one is over", late.ofStream(1, 0), 2);
    }

    private static void acknowledged() {
        NetLoom loom = Nets.talkedLine(2, 8, 1);
        loom.stream(0, 11, 4);
        Nets.write(loom, 0, 4);
        loom.mark(0, false, 1, true);
        loom.run(2);
        CHECK.is("section 3: each of the doubled ones is answered", loom.ofLink(0, true, 2), 1);
        CHECK.is("section 3: the other ack waits", loom.ofLink(0, true, 1), 1);
        Nets.write(loom, 0, 1);
        loom.run(1);
        CHECK.is("section 3: four are sure", loom.ofStream(0, 3), 4);
        CHECK.is("section 3: the fifth is sent", loom.ofStream(0, 2), 5);
        CHECK.is("section 3: its alarm", loom.ofStream(0, 7), 9);
        loom.run(1);
        CHECK.is("section 3: an ack once more changes nothing", loom.ofStream(0, 7), 9);
        NetLoom dead = Nets.talkedLine(2, 8, 3);
        dead.stream(0, 11, 4);
        dead.write(0, 7);
        dead.filter(0, 0, 0, 0, 0, 2, false, false);
        dead.mark(0, false, 1, false);
        dead.mark(0, false, 2, false);
        dead.run(40);
        CHECK.is("section 3: got by the third one", dead.ofStream(0, 5), 1);
        dead.unfilter(0);
        CHECK.is("section 3: broken, and told of no ack", dead.run(10), 0);
        CHECK.is("section 3: broken", dead.ofStream(0, 0), 3);
        CHECK.is("section 3: none is sure", dead.ofStream(0, 3), 0);
    }

    private static void keptBeyond() {
        NetLoom loom = Nets.talkedLine(2, 8, 1);
        loom.stream(0, 11, 12);
        Nets.write(loom, 0, 10);
        loom.mark(0, false, 2, false);
        loom.run(4);
        CHECK.is("section 3: got as far as none is missing", loom.ofStream(0, 5), 4);
        CHECK.is("22 kept beyond that", loom.ofStream(0, 6), 2);
        CHECK.refuses("23 letter 4 is not got", loom, INDEX, () -> loom.letter(0, 4));
        loom.run(10);
        CHECK.is("section 3: the missing ones came", loom.ofStream(0, 5), 10);
        CHECK.is("section 3: then none is beyond", loom.ofStream(0, 6), 0);
        CHECK.is("section 3: each once more is one ack more", loom.ofStream(0, 3), 10);
    }

    private static void told() {
        NetLoom loom = Nets.line(3, 2, 1);
        loom.route(0, 12, 6, 0, 1);
        loom.route(1, 10, 6, 0, 1);
        loom.stream(0, 12, 4);
        loom.stream(0, 12, 4);
        Nets.write(loom, 0, 3);
        CHECK.is("section 3: two fragments are lost", loom.run(4), 2);
        CHECK.is("section 3: told of both", loom.ofStream(0, 9), 2);
        CHECK.is("section 3: the other one is not", loom.ofStream(1, 9), 0);
        CHECK.is("section 3: nothing else", loom.ofStream(0, 8), 0);
        loom.plain(0, 12, 1, 1);
        loom.run(2);
        CHECK.is("section 3: a note of another packet", loom.ofNode(0, 5), 2);
        loom.run(1);
        CHECK.is("section 3: it came", loom.ofNode(0, 5), 3);
        CHECK.is("section 3: is none of it", loom.ofStream(0, 9), 2);
        NetLoom sure = Nets.line(2, 8, 1);
        sure.node(12);
        sure.link(0, 2, 8, 3);
        sure.route(0, 11, 6, 0, 1);
        sure.route(1, 10, 6, 0, 1);
        sure.route(2, 10, 6, 1, 1);
        sure.stream(0, 11, 8);
        Nets.write(sure, 0, 4);
        sure.unroute(0, 0);
        sure.route(0, 11, 6, 1, 1);
        sure.run(4);
        CHECK.is("section 3: lost at node 2 in 4", sure.lost(0), 1);
        sure.unroute(0, 0);
        sure.route(0, 11, 6, 0, 1);
        sure.run(3);
        CHECK.is("section 3: told of it in 7", sure.ofStream(0, 9), 1);
        sure.run(2);
        CHECK.is("section 3: sure by the second one in 9", sure.ofStream(0, 3), 4);
    }
}
