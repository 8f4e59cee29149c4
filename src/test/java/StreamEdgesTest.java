/** Section 3 of the document, sentence by sentence: streams, their windows, alarms and tries. */
public final class StreamEdgesTest {
    private static final Class<?> INDEX = IndexOutOfBoundsException.class;
    private static final Class<?> STATE = IllegalStateException.class;
    private static final Check CHECK = new Check("StreamEdgesTest");

    public static void main(String[] args) {
        fourStreams();
        withoutLetters();
        thirtyLetters();
        windowsOfAllSizes();
        lettersOfADatum();
        windowIsMet();
        windowBelowWhatIsSent();
        alarmInSixTicks();
        alarmIsSetIfNoneWasOnTheWay();
        threeTries();
        brokenAlthoughEnded();
        halves();
        fourOnceMore();
        fewerOnceMore();
        onlySentOnesOnceMore();
        ackOfEach();
        ackOfNothingNew();
        ackBelowSure();
        windowOneMoreToItsLimit();
        tryZeroAgain();
        overByAnAck();
        overAtOnce();
        overWithoutLetters();
        endedButNotSent();
        brokenKeepsNothing();
        brokenSendsNothing();
        toldByEitherLoss();
        toldByIdAlone();
        toldIfOneIsNotSure();
        toldOfNinetyData();
        cutDataOnceMore();
        CHECK.end();
    }

    private static void is(String what, NetLoom loom, int stream, String due) {
        StringBuilder all = new StringBuilder();
        for (int k = 0; k <= 9; k++) {
            all.append(k == 0 ? "" : " ").append(loom.ofStream(stream, k));
        }
        if (!all.toString().equals(due)) {
            CHECK.fail("section 3: " + what + ": stream " + stream + " is " + all + ", due is " + due);
        }
    }

    // ---- streams and letters

    private static void fourStreams() {
        NetLoom loom = Nets.talkedLine(3, 8, 1);
        int[] targets = {11, 12, 10, 11};
        for (int i = 0; i < 4; i++) {
            CHECK.is("14 its number", loom.stream(i % 3, targets[i], 4 + 2 * i), i);
            CHECK.is("26 streams", loom.many(2), i + 1);
            is("at first", loom, i, "0 0 0 0 " + (4 + 2 * i) + " 0 0 -1 0 0");
        }
        CHECK.refuses("14 a fifth", loom, STATE, () -> loom.stream(0, 11, 4));
        for (int i = 0; i < 4; i++) {
            Nets.write(loom, i, i + 1);
        }
        loom.run(9);
        for (int i = 0; i < 4; i++) {
            is("all is sure", loom, i, "0 " + (i + 1) + " " + (i + 1) + " " + (i + 1) + " " + (4 + 2 * i) + " "
                    + (i + 1) + " 0 -1 0 0");
            CHECK.is("23 its last letter", loom.letter(i, i), i);
            int stream = i;
            CHECK.refuses("23 none behind that", loom, INDEX, () -> loom.letter(stream, stream + 1));
        }
        CHECK.is("26 letters of all", loom.many(9), 10);
    }

    private static void withoutLetters() {
        NetLoom loom = Nets.talkedLine(2, 8, 1);
        loom.stream(0, 11, 4);
        CHECK.is("17 nothing is lost", loom.run(60), 0);
        CHECK.is("26 nothing is made", loom.many(4), 0);
        CHECK.is("29 nothing is sure", loom.sureIn(0, 60), 0);
        is("without letters", loom, 0, "0 0 0 0 4 0 0 -1 0 0");
        CHECK.refuses("23 none is got", loom, INDEX, () -> loom.letter(0, 0));
    }

    private static void thirtyLetters() {
        NetLoom loom = Nets.talkedLine(2, 8, 1);
        loom.stream(0, 11, 12);
        Nets.write(loom, 0, 29);
        CHECK.is("15 the 30th", loom.write(0, 7), 30);
        CHECK.refuses("15 a 31st", loom, STATE, () -> loom.write(0, 7));
        loom.run(30);
        is("all is sure", loom, 0, "0 30 30 30 12 30 0 -1 0 0");
        CHECK.is("23 the 29th", loom.letter(0, 28), 8);
        CHECK.is("23 the 30th", loom.letter(0, 29), 7);
        CHECK.refuses("23 a 31st", loom, INDEX, () -> loom.letter(0, 30));
        CHECK.refuses("15 a 31st, as all is sure", loom, STATE, () -> loom.write(0, 7));
        CHECK.is("26 eight data, and an ack of each", loom.many(4), 16);
        CHECK.is("16 all is sure", loom.end(0), 0);
        CHECK.is("16 so it is over at once", loom.ofStream(0, 0), 2);
    }

    // ---- windows

    private static void windowsOfAllSizes() {
        for (int window = 4; window <= 12; window++) {
            NetLoom loom = Nets.talkedLine(2, 8, 3);
            loom.stream(0, 11, window);
            Nets.write(loom, 0, 30);
            loom.run(1);
            is("as the window lets", loom, 0, "0 30 " + window + " 0 " + window + " 0 0 7 0 0");
            CHECK.is("section 3: at most 4 in each", loom.many(4), (window + 3) / 4);
            CHECK.is("section 3: the first of 4 has left", loom.ofLink(0, false, 5), window - 4);
            loom.run(1);
            CHECK.is("section 3: the second of 4, or of the rest", loom.ofLink(0, false, 5), Math.max(0, window - 8));
            CHECK.is("section 3: no more of them", loom.many(4), (window + 3) / 4);
            loom.run(60);
            is("in the end", loom, 0, "0 30 30 30 " + window + " 30 0 -1 0 0");
        }
    }

    private static void lettersOfADatum() {
        for (int letters = 1; letters <= 12; letters++) {
            NetLoom loom = Nets.talkedLine(2, 8, 1);
            loom.stream(0, 11, 12);
            Nets.write(loom, 0, letters);
            loom.run(1);
            CHECK.is("section 3: as many as there are", loom.ofStream(0, 2), letters);
            CHECK.is("section 3: data of " + letters, loom.many(4), (letters + 3) / 4);
            CHECK.is("section 3: the rest", loom.ofLink(0, false, 5), Math.max(0, letters - 4));
            loom.run(1);
            CHECK.is("section 3: got of the first one", loom.ofStream(0, 5), Math.min(4, letters));
        }
    }

    private static void windowIsMet() {
        NetLoom loom = Nets.talkedLine(2, 8, 3);
        loom.stream(0, 11, 4);
        Nets.write(loom, 0, 3);
        loom.run(1);
        CHECK.is("section 3: one below the window", loom.ofStream(0, 2), 3);
        Nets.write(loom, 0, 2);
        loom.run(1);
        CHECK.is("section 3: so one letter more", loom.ofStream(0, 2), 4);
        CHECK.is("section 3: in a data of its own", loom.many(4), 2);
        loom.run(4);
        CHECK.is("section 3: none, as it is met", loom.ofStream(0, 2), 4);
        loom.run(1);
        is("three are sure in 7, so there is room", loom, 0, "0 5 5 3 4 4 0 13 0 0");
    }

    /** 12 are sent, and the window is 6 then: nothing new goes, till less than that is not sure. */
    private static void windowBelowWhatIsSent() {
        NetLoom loom = Nets.talkedLine(2, 8, 1);
        loom.stream(0, 11, 12);
        Nets.write(loom, 0, 20);
        loom.mark(0, false, 1, false);
        loom.run(7);
        is("12 are on the way", loom, 0, "0 20 12 0 6 0 8 19 1 0");
        CHECK.is("section 3: only the first four went", loom.many(4), 3 + 2 + 1);
        loom.run(1);
        CHECK.is("section 3: all of them are got", loom.ofStream(0, 5), 12);
        loom.run(1);
        is("all is sure, the window is one more, and seven go", loom, 0, "0 20 19 12 7 12 0 15 0 0");
    }

    // ---- alarms

    private static void alarmInSixTicks() {
        NetLoom loom = Nets.talkedLine(2, 8, 1);
        loom.stream(0, 11, 4);
        loom.run(5);
        loom.write(0, 5);
        loom.mark(0, false, 1, false);
        loom.run(1);
        is("sent in 6", loom, 0, "0 1 1 0 4 0 0 12 0 0");
        loom.run(5);
        CHECK.is("section 3: not in 11", loom.many(4), 1);
        is("in 11", loom, 0, "0 1 1 0 4 0 0 12 0 0");
        loom.run(1);
        CHECK.is("section 3: once more in 12", loom.many(4), 2);
        is("in 12", loom, 0, "0 1 1 0 4 0 0 24 1 0");
        loom.run(2);
        is("sure", loom, 0, "0 1 1 1 4 1 0 -1 0 0");
    }

    private static void alarmIsSetIfNoneWasOnTheWay() {
        NetLoom loom = Nets.talkedLine(2, 8, 3);
        loom.stream(0, 11, 12);
        loom.write(0, 1);
        loom.run(1);
        CHECK.is("section 3: set in 1", loom.ofStream(0, 7), 7);
        loom.write(0, 2);
        loom.run(1);
        CHECK.is("section 3: one was on the way in 2", loom.ofStream(0, 7), 7);
        CHECK.is("section 3: two are sent", loom.ofStream(0, 2), 2);
        loom.run(5);
        CHECK.is("section 3: the ack in 7 sets it anew, ahead of step 3", loom.ofStream(0, 7), 13);
        CHECK.is("section 3: nothing once more", loom.ofStream(0, 8), 0);
        loom.run(1);
        CHECK.is("section 3: none, as all is sure", loom.ofStream(0, 7), -1);
        loom.write(0, 3);
        loom.run(1);
        CHECK.is("section 3: set in 9, as none was on the way", loom.ofStream(0, 7), 15);
    }

    private static void threeTries() {
        NetLoom loom = Nets.talkedLine(2, 8, 1);
        loom.filter(1, 0, 0, 0, 0, 1, false, false);
        loom.stream(0, 11, 12);
        Nets.write(loom, 0, 2);
        loom.run(6);
        is("in 6", loom, 0, "0 2 2 0 12 0 0 7 0 0");
        loom.run(1);
        is("once more in 7, 12 ticks", loom, 0, "0 2 2 0 6 0 0 19 1 0");
        loom.run(11);
        is("in 18", loom, 0, "0 2 2 0 6 0 0 19 1 0");
        loom.run(1);
        is("once more in 19, 24 ticks", loom, 0, "0 2 2 0 4 0 0 43 2 0");
        loom.run(23);
        is("in 42", loom, 0, "0 2 2 0 4 0 0 43 2 0");
        loom.write(0, 3);
        CHECK.is("16 not broken yet", loom.ofStream(0, 0), 0);
        loom.run(1);
        is("broken in 43: what was written in 42 does not go", loom, 0, "3 3 2 0 4 0 0 -1 2 0");
        CHECK.is("section 3: three went", loom.many(4), 3);
        loom.run(60);
        CHECK.is("section 3: and no more", loom.many(4), 3);
        is("for ever", loom, 0, "3 3 2 0 4 0 0 -1 2 0");
    }

    private static void brokenAlthoughEnded() {
        NetLoom loom = Nets.talkedLine(2, 8, 1);
        loom.filter(1, 0, 0, 0, 0, 1, false, false);
        loom.stream(0, 11, 4);
        loom.write(0, 1);
        CHECK.is("16 one is not sure", loom.end(0), 1);
        loom.run(42);
        CHECK.is("22 ended", loom.ofStream(0, 0), 1);
        loom.run(1);
        CHECK.is("22 broken", loom.ofStream(0, 0), 3);
        CHECK.refuses("16 broken and ended", loom, STATE, () -> loom.end(0));
        CHECK.refuses("15 broken and ended", loom, STATE, () -> loom.write(0, 1));
    }

    private static void halves() {
        int[] first = {4, 4, 4, 4, 4, 4, 5, 5, 6};
        for (int window = 4; window <= 12; window++) {
            NetLoom loom = Nets.talkedLine(2, 8, 1);
            loom.up(0, false);
            loom.stream(0, 11, window);
            loom.write(0, 1);
            loom.run(6);
            CHECK.is("section 3: the window", loom.ofStream(0, 4), window);
            loom.run(1);
            CHECK.is("section 3: half of " + window + ", 4 at least", loom.ofStream(0, 4), first[window - 4]);
            loom.run(12);
            CHECK.is("section 3: half of that, 4 at least", loom.ofStream(0, 4), 4);
        }
    }

    private static void fourOnceMore() {
        NetLoom loom = Nets.talkedLine(2, 8, 1);
        loom.stream(0, 11, 12);
        Nets.write(loom, 0, 12);
        for (int many = 1; many <= 3; many++) {
            loom.mark(0, false, many, false);
        }
        loom.run(8);
        CHECK.is("section 3: at most 4 of 12", loom.ofStream(0, 5), 4);
        CHECK.is("section 3: and no others", loom.ofStream(0, 6), 0);
        CHECK.is("section 3: four data", loom.ofLink(0, false, 3), 4);
        loom.run(1);
        is("four are sure, the others are not", loom, 0, "0 12 12 4 7 4 0 15 0 0");
        loom.run(8);
        is("the next four once more in 15", loom, 0, "0 12 12 8 5 8 0 23 0 0");
        loom.run(8);
        is("the last four once more in 23", loom, 0, "0 12 12 12 5 12 0 -1 0 0");
    }

    private static void fewerOnceMore() {
        NetLoom loom = Nets.talkedLine(2, 8, 1);
        loom.stream(0, 11, 12);
        Nets.write(loom, 0, 5);
        loom.mark(0, false, 2, false);
        loom.run(3);
        is("four are sure", loom, 0, "0 5 5 4 12 4 0 9 0 0");
        loom.run(7);
        is("the one that is sent, from sure on, came once more in 10", loom, 0, "0 5 5 4 6 5 0 21 1 0");
        loom.run(1);
        is("sure", loom, 0, "0 5 5 5 7 5 0 -1 0 0");
    }

    private static void onlySentOnesOnceMore() {
        NetLoom loom = Nets.talkedLine(2, 8, 1);
        loom.stream(0, 11, 8);
        Nets.write(loom, 0, 2);
        loom.mark(0, false, 1, false);
        loom.run(6);
        Nets.write(loom, 0, 3);
        loom.run(1);
        CHECK.is("section 3: two once more, then two as the window of 4 lets", loom.many(4), 3);
        is("four are sent", loom, 0, "0 5 4 0 4 0 0 19 1 0");
        CHECK.is("section 3: the new ones are behind those", loom.ofLink(0, false, 5), 2);
        loom.run(1);
        CHECK.is("section 3: those that go once more came first", loom.ofStream(0, 5), 2);
    }

    // ---- acks

    private static void ackOfEach() {
        NetLoom loom = Nets.talkedLine(2, 8, 1);
        loom.stream(0, 11, 4);
        Nets.write(loom, 0, 4);
        loom.mark(0, false, 1, true);
        loom.run(2);
        CHECK.is("section 3: two came, so two acks are made", loom.many(4), 3);
        CHECK.is("section 3: one waits", loom.ofLink(0, true, 1), 1);
        CHECK.is("section 3: without letters", loom.ofLink(0, true, 5), 0);
        CHECK.is("22 each letter is kept once", loom.ofStream(0, 5), 4);
        loom.run(2);
        is("the second ack changes nothing", loom, 0, "0 4 4 4 4 4 0 -1 0 0");
    }

    private static void ackOfNothingNew() {
        NetLoom loom = Nets.talkedLine(2, 8, 1);
        loom.stream(0, 11, 12);
        Nets.write(loom, 0, 8);
        loom.mark(0, false, 1, false);
        loom.run(4);
        is("the ack of the second data is 0, that is not above sure", loom, 0, "0 8 8 0 12 0 4 7 0 0");
        CHECK.is("21 it came", loom.ofLink(0, true, 3) + 10 * loom.many(6), 1);
        loom.run(5);
        is("the first one once more: the ack is of all", loom, 0, "0 8 8 8 7 8 0 -1 0 0");
    }

    /** The ack of 4 goes over a slow link, that of 8 overtakes it. */
    private static void ackBelowSure() {
        NetLoom loom = Nets.line(2, 8, 1);
        loom.link(0, 1, 8, 3);
        loom.route(0, 11, 6, 0, 1);
        loom.route(1, 10, 6, 1, 1);
        loom.stream(0, 11, 12);
        Nets.write(loom, 0, 9);
        loom.mark(0, false, 3, false);
        loom.run(2);
        loom.unroute(1, 0);
        loom.route(1, 10, 6, 0, 1);
        loom.run(2);
        is("eight are sure", loom, 0, "0 9 9 8 12 8 0 10 0 0");
        loom.run(1);
        CHECK.is("21 the other ack came", loom.many(6), 0);
        is("it is below that", loom, 0, "0 9 9 8 12 8 0 10 0 0");
    }

    private static void windowOneMoreToItsLimit() {
        NetLoom loom = Nets.talkedLine(2, 8, 1);
        loom.stream(0, 11, 6);
        loom.write(0, 1);
        loom.mark(0, false, 1, false);
        loom.run(9);
        is("half, and one more", loom, 0, "0 1 1 1 5 1 0 -1 0 0");
        int[] due = {6, 6, 6};
        for (int i = 0; i < due.length; i++) {
            loom.write(0, 1);
            loom.run(3);
            CHECK.is("section 3: one more for each ack, at most its limit", loom.ofStream(0, 4), due[i]);
            CHECK.is("section 3: sure", loom.ofStream(0, 3), i + 2);
        }
    }

    private static void tryZeroAgain() {
        NetLoom loom = Nets.talkedLine(2, 8, 1);
        loom.stream(0, 11, 8);
        Nets.write(loom, 0, 8);
        for (int many = 1; many <= 3; many++) {
            loom.mark(0, false, many, false);
        }
        loom.run(19);
        is("the second time in 19", loom, 0, "0 8 8 0 4 0 0 43 2 0");
        loom.run(2);
        is("its ack in 21", loom, 0, "0 8 8 4 5 4 0 27 0 0");
        loom.mark(0, false, 1, false);
        loom.run(6);
        is("the other four once more in 27", loom, 0, "0 8 8 4 4 4 0 39 1 0");
        loom.run(12);
        is("and in 39", loom, 0, "0 8 8 4 4 4 0 63 2 0");
        loom.run(2);
        is("sure in 41", loom, 0, "0 8 8 8 5 8 0 -1 0 0");
    }

    // ---- ended, over, broken

    private static void overByAnAck() {
        NetLoom loom = Nets.talkedLine(2, 8, 1);
        loom.stream(0, 11, 4);
        Nets.write(loom, 0, 4);
        CHECK.is("16 four are not sure", loom.end(0), 4);
        loom.run(2);
        CHECK.is("22 ended", loom.ofStream(0, 0), 1);
        CHECK.is("22 though all is got", loom.ofStream(0, 5), 4);
        loom.run(1);
        is("over by the ack", loom, 0, "2 4 4 4 4 4 0 -1 0 0");
        loom.run(60);
        is("for ever", loom, 0, "2 4 4 4 4 4 0 -1 0 0");
        CHECK.is("section 3: it sends nothing", loom.many(4), 2);
    }

    private static void overAtOnce() {
        NetLoom loom = Nets.talkedLine(2, 8, 1);
        loom.stream(0, 11, 4);
        Nets.write(loom, 0, 4);
        loom.run(3);
        CHECK.is("22 all is sure, but not ended", loom.ofStream(0, 0), 0);
        CHECK.is("16 all is sure", loom.end(0), 0);
        CHECK.is("22 over", loom.ofStream(0, 0), 2);
        CHECK.refuses("16 over", loom, STATE, () -> loom.end(0));
        CHECK.refuses("15 over", loom, STATE, () -> loom.write(0, 1));
    }

    private static void overWithoutLetters() {
        NetLoom loom = Nets.talkedLine(2, 8, 1);
        loom.stream(0, 11, 4);
        CHECK.is("16 nothing was written", loom.end(0), 0);
        is("over", loom, 0, "2 0 0 0 4 0 0 -1 0 0");
        loom.run(9);
        CHECK.is("section 3: nothing goes", loom.many(4), 0);
    }

    private static void endedButNotSent() {
        NetLoom loom = Nets.talkedLine(2, 8, 1);
        loom.stream(0, 11, 4);
        Nets.write(loom, 0, 9);
        loom.run(1);
        CHECK.is("16 nine are not sure, five not even sent", loom.end(0), 9);
        loom.run(2);
        is("it goes on", loom, 0, "1 9 8 4 4 4 0 9 0 0");
        loom.run(4);
        is("till all is sure", loom, 0, "2 9 9 9 4 9 0 -1 0 0");
    }

    /** The data is in the row of a link that is down since tick 2. */
    private static NetLoom heldData() {
        NetLoom loom = Nets.talkedLine(3, 8, 1);
        loom.stream(0, 12, 4);
        loom.write(0, 1);
        loom.run(1);
        loom.plain(1, 12, 1, 0);
        loom.run(1);
        loom.up(1, false);
        CHECK.is("21 the data is in the row", loom.ofLink(1, false, 5), 1);
        return loom;
    }

    private static void brokenKeepsNothing() {
        NetLoom early = heldData();
        early.run(39);
        early.up(1, true);
        early.run(1);
        CHECK.is("22 it leaves in 42, with an alarm in 43", early.ofStream(0, 7), 43);
        early.run(1);
        is("broken in 43, but what came in step 1 of that is kept", early, 0, "3 1 1 0 4 1 0 -1 2 2");
        NetLoom late = heldData();
        late.run(41);
        is("broken in 43, told of both that found no route", late, 0, "3 1 1 0 4 0 0 -1 2 2");
        late.up(1, true);
        int made = late.many(4);
        late.run(2);
        CHECK.is("21 the data came", late.ofLink(1, false, 3), 2);
        CHECK.is("section 3: it is not kept", late.ofStream(0, 5) + late.ofStream(0, 6), 0);
        CHECK.is("section 3: but an ack goes back", late.many(4), made + 1);
        late.run(9);
        is("which is not looked at", late, 0, "3 1 1 0 4 0 0 -1 2 2");
    }

    private static void brokenSendsNothing() {
        NetLoom loom = Nets.talkedLine(2, 8, 1);
        loom.stream(0, 11, 4);
        Nets.write(loom, 0, 9);
        loom.filter(0, 0, 0, 0, 0, 2, false, false);
        loom.run(43);
        is("got, but not sure", loom, 0, "3 9 4 0 4 4 0 -1 2 0");
        loom.unfilter(0);
        int made = loom.many(4);
        loom.run(60);
        CHECK.is("section 3: nothing more", loom.many(4), made);
        CHECK.is("23 what is got stays", loom.letter(0, 3), 3);
        CHECK.is("29 nothing would be sure", loom.sureIn(0, 60), 0);
    }

    // ---- told

    private static void toldByEitherLoss() {
        NetLoom loom = Nets.line(3, 8, 1);
        loom.route(0, 12, 6, 0, 1);
        loom.route(1, 10, 6, 0, 1);
        loom.stream(0, 12, 4);
        loom.write(0, 1);
        loom.run(2);
        CHECK.is("22 the note is on its way", loom.ofStream(0, 9), 0);
        loom.run(1);
        CHECK.is("22 told of loss 0", loom.ofStream(0, 9), 1);
        is("nothing else", loom, 0, "0 1 1 0 4 0 0 7 0 1");
        loom.route(1, 12, 6, 0, 1);
        loom.run(10);
        CHECK.is("24 by its age", loom.lost(4), 1);
        is("told of loss 4", loom, 0, "0 1 1 0 4 0 0 19 1 2");
    }

    private static void toldByIdAlone() {
        NetLoom loom = Nets.line(3, 8, 1);
        loom.route(0, 12, 6, 0, 1);
        loom.route(1, 10, 6, 0, 1);
        loom.route(2, 10, 6, 1, 1);
        loom.plain(0, 12, 1, 1);
        loom.stream(0, 12, 4);
        loom.stream(0, 12, 4);
        loom.stream(1, 12, 4);
        loom.write(1, 1);
        loom.write(2, 1);
        loom.run(6);
        CHECK.is("18 notes of the plain one and of the data", loom.ofNode(0, 5), 2);
        CHECK.is("22 the stream without data", loom.ofStream(0, 9), 0);
        CHECK.is("22 that with it", loom.ofStream(1, 9), 1);
        CHECK.is("22 that of another node, told at once", loom.ofStream(2, 9), 1);
        CHECK.is("18 its note", loom.ofNode(1, 5), 1);
        loom.run(4);
        CHECK.is("22 once more by the id of the data that went once more", loom.ofStream(1, 9), 2);
    }

    /**
     * Two data, the first one of so many letters, the second one of the rest of five, go a long way and are
     * lost there, of which the notes come in 13 and 14. In 8 the first four letters come by a short one.
     */
    private static NetLoom longWay(int lettersOfTheFirst) {
        NetLoom loom = Nets.line(2, 8, 1);
        loom.node(12);
        loom.node(13);
        loom.link(0, 2, 8, 3);
        loom.link(2, 3, 8, 3);
        loom.route(0, 11, 6, 1, 1);
        loom.route(2, 11, 6, 2, 1);
        loom.route(3, 10, 6, 2, 1);
        loom.route(2, 10, 6, 1, 1);
        loom.route(1, 10, 6, 0, 1);
        loom.stream(0, 11, 8);
        Nets.write(loom, 0, lettersOfTheFirst);
        loom.run(1);
        Nets.write(loom, 0, 5 - lettersOfTheFirst);
        loom.run(1);
        loom.unroute(0, 0);
        loom.route(0, 11, 6, 0, 1);
        loom.run(10);
        is("four are sure", loom, 0, "0 5 5 4 5 4 0 15 0 0");
        return loom;
    }

    private static void toldIfOneIsNotSure() {
        for (int letters = 1; letters <= 4; letters++) {
            NetLoom loom = longWay(letters);
            loom.run(1);
            CHECK.is("18 the note of the first data", loom.ofNode(0, 5), 1);
            CHECK.is("22 all of that is sure, of " + letters, loom.ofStream(0, 9), 0);
            loom.run(1);
            CHECK.is("18 the note of the second one", loom.ofNode(0, 5), 2);
            is("of that the last letter is not", loom, 0, "0 5 5 4 5 4 0 15 0 1");
            loom.run(3);
            is("sure by the next try", loom, 0, "0 5 5 5 5 5 0 -1 0 1");
        }
    }

    /** As many data as a stream can send: each of 30 letters three times. The last one is told of, too. */
    private static void toldOfNinetyData() {
        NetLoom loom = Nets.talkedLine(2, 8, 1);
        loom.stream(0, 11, 12);
        for (int i = 0; i < 30; i++) {
            loom.up(0, false);
            loom.write(0, i % 10);
            loom.run(1);
            CHECK.is("22 told at once", loom.ofStream(0, 9), 2 * i + 1);
            loom.run(6);
            CHECK.is("22 told once more", loom.ofStream(0, 9), 2 * i + 2);
            loom.up(0, i < 29);
            loom.run(14);
        }
        CHECK.is("22 and of the third one, which came but for the last", loom.ofStream(0, 9), 61);
        CHECK.is("22 sure", loom.ofStream(0, 3), 29);
        CHECK.is("26 made: 90 data, 29 acks, 61 notes", loom.many(4), 180);
        loom.run(24);
        is("broken in the end", loom, 0, "3 30 30 29 4 29 0 -1 2 61");
    }

    private static void cutDataOnceMore() {
        NetLoom loom = Nets.talkedLine(2, 2, 1);
        loom.stream(0, 11, 4);
        Nets.write(loom, 0, 4);
        loom.mark(0, false, 2, false);
        loom.run(8);
        CHECK.is("18 of two data a half is there", loom.ofNode(1, 8), 2);
        CHECK.is("22 nothing is got", loom.ofStream(0, 5), 0);
        loom.run(1);
        CHECK.is("22 the second one is whole", loom.ofStream(0, 5), 4);
        CHECK.is("18 the first one is kept", loom.ofNode(1, 8), 1);
        CHECK.is("24 till it is too old, in 14", loom.run(5), 1);
        CHECK.is("24 loss 5", loom.lost(5), 1);
        is("sure in the mean time", loom, 0, "0 4 4 4 4 4 0 -1 0 0");
    }
}
