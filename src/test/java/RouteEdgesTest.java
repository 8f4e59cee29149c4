/** Section 1 of the document, sentence by sentence: nodes, links, prefixes, routes, and what a talk tells. */
public final class RouteEdgesTest {
    private static final Class<?> STATE = IllegalStateException.class;
    private static final Check CHECK = new Check("RouteEdgesTest");

    public static void main(String[] args) {
        sixNodes();
        eightLinks();
        prefixesOfRoutes();
        prefixesOfRules();
        prefixesInside();
        tenRoutes();
        bitsAheadOfCost();
        costAheadOfTold();
        toldAheadOfLink();
        linkAheadOfPlace();
        onlyWhatIsUp();
        talkOfNone();
        talkOverWhatIsUp();
        itselfFirst();
        othersByNumbers();
        nodeByNodeLinkByLink();
        asItWasAhead();
        nothingBackOverItsLink();
        notToItsOwnAddress();
        onlyAddressesOfNodes();
        inPlaceOfTheOlder();
        besideToldOnes();
        besideOtherLinks();
        roomForNewOnes();
        costOfNine();
        goneAsNotTold();
        goneBehindAllThat();
        talkOfTheFull();
        CHECK.end();
    }

    private static NetLoom nodes(int... addresses) {
        NetLoom loom = new NetLoom();
        for (int address : addresses) {
            loom.node(address);
        }
        return loom;
    }

    /** The routes of a node, each as its address, its link and its cost, a learned one with a "+". */
    private static void routesAre(String what, NetLoom loom, int node, String due) {
        StringBuilder all = new StringBuilder();
        for (int k = 0; k < loom.ofNode(node, 1); k++) {
            all.append(k == 0 ? "" : ", ").append(loom.ofRoute(node, k, 4) == 1 ? "+" : "");
            all.append(loom.ofRoute(node, k, 0)).append(" by ").append(loom.ofRoute(node, k, 2));
            all.append(" for ").append(loom.ofRoute(node, k, 3));
        }
        if (!all.toString().equals(due)) {
            CHECK.fail("section 1: " + what + ": the routes of " + node + " are " + all + ", due is " + due);
        }
    }

    // ---- nodes and links

    private static void sixNodes() {
        NetLoom loom = new NetLoom();
        for (int i = 0; i < 6; i++) {
            CHECK.is("2 number of a node", loom.node(63 - i), i);
            CHECK.is("26 nodes", loom.many(0), i + 1);
        }
        CHECK.refuses("2 a seventh", loom, STATE, () -> loom.node(0));
        for (int i = 0; i < 6; i++) {
            CHECK.is("18 address", loom.ofNode(i, 0), 63 - i);
        }
    }

    private static void eightLinks() {
        NetLoom loom = nodes(1, 2, 3);
        for (int i = 0; i < 8; i++) {
            CHECK.is("3 number of a link", loom.link(i % 3, (i + 1) % 3, 2 + i % 7, 1 + i % 3), i);
            CHECK.is("26 links", loom.many(1), i + 1);
            CHECK.is("section 1: at first it is up", loom.ofLink(i, false, 6), 1);
        }
        CHECK.refuses("3 a ninth", loom, STATE, () -> loom.link(0, 1, 2, 1));
        for (int i = 0; i < 8; i++) {
            CHECK.is("21 its first end", loom.ofLink(i, false, 0), i % 3);
            CHECK.is("21 its other end", loom.ofLink(i, true, 0), (i + 1) % 3);
        }
    }

    // ---- prefixes

    private static boolean isBetween(int address, int value, int bits) {
        int size = 64 >> bits;
        int least = value / size * size;
        return address >= least && address < least + size;
    }

    private static void prefixesOfRoutes() {
        NetLoom loom = nodes(0, 63);
        loom.link(0, 1, 8, 1);
        for (int bits = 0; bits <= 6; bits++) {
            for (int value = 0; value < 64; value++) {
                loom.route(0, value, bits, 0, 1);
                for (int address = 0; address < 64; address++) {
                    CHECK.is("section 1: " + address + " in " + value + " of " + bits,
                            loom.routeTo(0, address), isBetween(address, value, bits) ? 0 : -1);
                }
                loom.unroute(0, 0);
            }
        }
    }

    /** A filter and a capture for targets, and for sources, at both borders of their prefixes. */
    private static void prefixesOfRules() {
        int[] values = {0, 1, 31, 32, 42, 63};
        for (int bits = 0; bits <= 6; bits++) {
            for (int value : values) {
                int size = 64 >> bits;
                int least = value / size * size;
                int[] borders = {least - 1, least, value, least + size - 1, least + size};
                for (int address : borders) {
                    if (address >= 0 && address <= 63) {
                        ruleForTargets(value, bits, address);
                        ruleForSources(value, bits, address);
                    }
                }
            }
        }
    }

    private static void ruleForTargets(int value, int bits, int address) {
        int fits = isBetween(address, value, bits) ? 1 : 0;
        NetLoom loom = nodes(address == 5 ? 6 : 5, address);
        loom.link(0, 1, 8, 1);
        loom.talk();
        loom.capture(1, 0, 0, value, bits, -1);
        loom.filter(1, 0, 0, value, bits, -1, false, false);
        loom.plain(0, address, 1, 1);
        CHECK.is("9 dropped by its target", loom.run(2), fits);
        CHECK.is("12 counted by its target", loom.captured(0), fits);
    }

    private static void ruleForSources(int value, int bits, int address) {
        int fits = isBetween(address, value, bits) ? 1 : 0;
        int target = address == 5 ? 6 : 5;
        NetLoom loom = nodes(address, target);
        loom.link(0, 1, 8, 1);
        loom.talk();
        loom.capture(1, value, bits, 0, 0, -1);
        loom.filter(1, value, bits, 0, 0, -1, false, false);
        loom.plain(0, target, 1, 1);
        CHECK.is("9 dropped by its source", loom.run(2), fits);
        CHECK.is("12 counted by its source", loom.captured(0), fits);
    }

    private static void prefixesInside() {
        for (int bits = 0; bits <= 6; bits++) {
            for (int source = 30; source <= 33; source++) {
                for (int target = 28; target <= 36; target++) {
                    if (target != source) {
                        inside(bits, source, target);
                    }
                }
            }
        }
    }

    private static void inside(int bits, int source, int target) {
        NetLoom loom = nodes(source, 1, target);
        loom.link(0, 1, 8, 1);
        loom.link(1, 2, 8, 1);
        loom.route(0, target, 6, 0, 1);
        loom.route(1, target, 6, 1, 1);
        loom.translator(1, 32, bits);
        loom.plain(0, target, 1, 1);
        loom.run(2);
        boolean isNoted = isBetween(source, 32, bits) && !isBetween(target, 32, bits);
        CHECK.is("11 from " + source + " to " + target + ", inside is 32 of " + bits, loom.ofNode(1, 9),
                isNoted ? 1 : 0);
    }

    // ---- routes

    private static void tenRoutes() {
        NetLoom loom = nodes(1, 2, 3);
        loom.link(0, 1, 8, 1);
        loom.link(0, 2, 8, 1);
        loom.talk();
        for (int k = 2; k < 10; k++) {
            CHECK.is("6 its number, behind the learned ones", loom.route(0, k, 6, k % 2, 9), k);
        }
        CHECK.refuses("6 an eleventh, of which two are learned", loom, STATE, () -> loom.route(0, 0, 0, 0, 1));
        CHECK.is("6 another node has room", loom.route(1, 0, 0, 0, 1), 1);
        loom.unroute(0, 0);
        CHECK.is("6 room again", loom.route(0, 0, 0, 0, 1), 9);
        CHECK.is("7 those behind moved up", loom.ofRoute(0, 8, 0), 9);
        CHECK.is("7 the tenth", loom.unroute(0, 9), false);
        CHECK.is("18 nine routes", loom.ofNode(0, 1), 9);
        for (int k = 8; k >= 0; k--) {
            CHECK.is("7 the last one, learned if it is the first", loom.unroute(0, k), k == 0);
        }
        CHECK.is("18 no routes", loom.ofNode(0, 1), 0);
        CHECK.is("19 none", loom.routeTo(0, 2), -1);
    }

    private static NetLoom parallel() {
        NetLoom loom = nodes(1, 42);
        loom.link(0, 1, 8, 1);
        loom.link(0, 1, 8, 1);
        return loom;
    }

    private static void bitsAheadOfCost() {
        NetLoom loom = parallel();
        loom.route(0, 42, 5, 0, 1);
        loom.route(0, 42, 6, 1, 9);
        loom.route(0, 42, 4, 0, 1);
        CHECK.is("section 1: the most bits", loom.routeTo(0, 42), 1);
        CHECK.is("section 1: of those that have it", loom.routeTo(0, 43), 0);
        CHECK.is("section 1: of those that have it", loom.routeTo(0, 40), 2);
    }

    private static void costAheadOfTold() {
        NetLoom loom = parallel();
        loom.route(0, 42, 6, 0, 2);
        loom.talk();
        CHECK.is("section 1: the least cost, though it is learned", loom.routeTo(0, 42), 1);
        loom.unroute(0, 0);
        loom.route(0, 42, 6, 0, 9);
        CHECK.is("section 1: the same, if that came first", loom.routeTo(0, 42), 0);
    }

    private static void toldAheadOfLink() {
        NetLoom loom = parallel();
        loom.talk();
        loom.route(0, 42, 6, 1, 1);
        CHECK.is("section 1: a told one, though its link is greater", loom.routeTo(0, 42), 2);
        NetLoom first = parallel();
        first.route(0, 42, 6, 1, 1);
        first.talk();
        CHECK.is("section 1: the same, if it came first", first.routeTo(0, 42), 0);
    }

    private static void linkAheadOfPlace() {
        NetLoom loom = parallel();
        loom.route(0, 42, 6, 1, 3);
        loom.route(0, 42, 6, 0, 3);
        loom.route(0, 42, 6, 0, 3);
        CHECK.is("section 1: the smallest link, then what came first", loom.routeTo(0, 42), 1);
        loom.unroute(0, 1);
        CHECK.is("section 1: then the other one", loom.routeTo(0, 42), 1);
        loom.unroute(0, 1);
        CHECK.is("section 1: then that by link 1", loom.routeTo(0, 42), 0);
    }

    private static void onlyWhatIsUp() {
        NetLoom loom = parallel();
        loom.route(0, 42, 6, 0, 1);
        loom.route(0, 0, 0, 1, 9);
        loom.up(0, false);
        CHECK.is("section 1: the better one is not up", loom.routeTo(0, 42), 1);
        loom.up(1, false);
        CHECK.is("section 1: none is up", loom.routeTo(0, 42), -1);
        loom.up(0, true);
        CHECK.is("section 1: up again", loom.routeTo(0, 42), 0);
        CHECK.is("section 1: of 43 by the other one alone", loom.routeTo(0, 43), -1);
    }

    // ---- a talk

    private static void talkOfNone() {
        CHECK.is("8 no nodes", nodes().talk(), 0);
        CHECK.is("8 one node", nodes(1).talk(), 0);
        CHECK.is("8 six nodes without links", nodes(1, 2, 3, 4, 5, 6).talk(), 0);
    }

    private static void talkOverWhatIsUp() {
        NetLoom loom = parallel();
        loom.up(0, false);
        CHECK.is("8 over the one that is up", loom.talk(), 2);
        routesAre("only the one that is up", loom, 0, "+42 by 1 for 1");
        loom.up(0, true);
        loom.up(1, false);
        CHECK.is("8 over the other one", loom.talk(), 2);
        routesAre("only the other one", loom, 0, "+42 by 0 for 1");
        loom.up(0, false);
        CHECK.is("8 over none", loom.talk(), 0);
        loom.up(0, true);
        loom.up(1, true);
        CHECK.is("8 over both", loom.talk(), 4);
        routesAre("both", loom, 1, "+1 by 0 for 1, +1 by 1 for 1");
    }

    private static void itselfFirst() {
        NetLoom loom = nodes(10, 20, 30, 40);
        loom.link(3, 0, 8, 1);
        loom.link(3, 1, 8, 1);
        loom.talk();
        loom.link(3, 2, 8, 1);
        loom.talk();
        routesAre("itself, then by numbers", loom, 2, "+40 by 2 for 1, +10 by 2 for 2, +20 by 2 for 2");
    }

    private static void othersByNumbers() {
        NetLoom loom = nodes(40, 30, 20, 10, 5);
        loom.link(3, 4, 8, 1);
        loom.link(3, 0, 8, 1);
        loom.route(3, 20, 6, 1, 3);
        loom.route(3, 30, 6, 1, 2);
        loom.route(3, 40, 6, 1, 1);
        loom.talk();
        routesAre("not by addresses, nor as they came", loom, 4,
                "+10 by 0 for 1, +40 by 0 for 2, +30 by 0 for 3, +20 by 0 for 4");
    }

    private static void nodeByNodeLinkByLink() {
        NetLoom loom = nodes(10, 20, 30);
        loom.link(1, 2, 8, 1);
        loom.link(0, 2, 8, 1);
        loom.link(2, 0, 8, 1);
        CHECK.is("8 three links", loom.talk(), 6);
        routesAre("what node 0 tells comes first, by its links", loom, 2,
                "+10 by 1 for 1, +10 by 2 for 1, +20 by 0 for 1");
    }

    private static void asItWasAhead() {
        NetLoom loom = Nets.line(4, 8, 1);
        loom.talk();
        routesAre("only its neighbour", loom, 3, "+12 by 2 for 1");
        loom.talk();
        routesAre("what that knew", loom, 3, "+12 by 2 for 1, +11 by 2 for 2");
        loom.talk();
        routesAre("all", loom, 3, "+12 by 2 for 1, +11 by 2 for 2, +10 by 2 for 3");
        NetLoom told = Nets.line(3, 8, 1);
        told.node(50);
        told.route(0, 50, 6, 0, 1);
        told.talk();
        routesAre("a node that would send over this link does not tell it there", told, 1,
                "+10 by 0 for 1, +12 by 1 for 1");
    }

    private static void nothingBackOverItsLink() {
        NetLoom loom = parallel();
        loom.node(50);
        loom.route(1, 50, 6, 1, 3);
        CHECK.is("8 it is told over the other link alone", loom.talk(), 5);
        routesAre("by 0 alone", loom, 0, "+42 by 0 for 1, +50 by 0 for 4, +42 by 1 for 1");
        CHECK.is("8 then back over link 1", loom.talk(), 6);
        routesAre("that would send over link 0", loom, 1, "50 by 1 for 3, +1 by 0 for 1, +1 by 1 for 1, +50 by 1 for 5");
    }

    private static void notToItsOwnAddress() {
        NetLoom loom = Nets.line(3, 8, 1);
        loom.route(1, 10, 6, 1, 1);
        loom.talk();
        loom.talk();
        routesAre("of 10 nothing", loom, 0, "+11 by 0 for 1, +12 by 0 for 2");
        loom.route(0, 10, 6, 0, 4);
        loom.talk();
        routesAre("a told one to itself stays", loom, 0, "+11 by 0 for 1, +12 by 0 for 2, 10 by 0 for 4");
    }

    private static void onlyAddressesOfNodes() {
        NetLoom loom = Nets.line(3, 8, 1);
        loom.route(1, 50, 6, 1, 2);
        loom.talk();
        routesAre("50 is of no node", loom, 0, "+11 by 0 for 1");
        loom.node(50);
        loom.talk();
        routesAre("now it is", loom, 0, "+11 by 0 for 1, +12 by 0 for 2, +50 by 0 for 3");
        NetLoom wide = Nets.line(3, 8, 1);
        wide.node(50);
        wide.route(1, 0, 0, 1, 5);
        wide.talk();
        routesAre("a route with no bits has each of them", wide, 0, "+11 by 0 for 1, +12 by 0 for 6, +50 by 0 for 6");
        CHECK.is("8 with 6 bits", wide.ofRoute(0, 1, 1), 6);
    }

    private static void inPlaceOfTheOlder() {
        NetLoom loom = Nets.line(3, 8, 1);
        loom.node(50);
        loom.route(1, 50, 6, 1, 3);
        loom.talk();
        loom.talk();
        routesAre("as it is told first", loom, 0, "+11 by 0 for 1, +50 by 0 for 4, +12 by 0 for 2");
        loom.unroute(1, 0);
        loom.route(1, 50, 6, 1, 5);
        loom.talk();
        routesAre("with another cost, at its place", loom, 0, "+11 by 0 for 1, +50 by 0 for 6, +12 by 0 for 2");
        loom.unroute(0, 1);
        loom.talk();
        routesAre("a new one behind the others", loom, 0, "+11 by 0 for 1, +12 by 0 for 2, +50 by 0 for 6");
    }

    private static void besideToldOnes() {
        NetLoom loom = Nets.line(2, 8, 1);
        loom.route(0, 11, 6, 0, 7);
        CHECK.is("8 one each", loom.talk(), 2);
        routesAre("a told one is not replaced", loom, 0, "11 by 0 for 7, +11 by 0 for 1");
    }

    private static void besideOtherLinks() {
        NetLoom loom = parallel();
        loom.talk();
        loom.unroute(0, 0);
        loom.talk();
        routesAre("that over another link is not replaced", loom, 0, "+42 by 1 for 1, +42 by 0 for 1");
    }

    private static void roomForNewOnes() {
        NetLoom loom = Nets.line(3, 8, 1);
        for (int i = 0; i < 10; i++) {
            loom.route(1, 40 + i, 6, 0, 1);
        }
        CHECK.is("8 no room at node 1", loom.talk(), 2);
        CHECK.is("18 none is learned there", loom.ofNode(1, 2), 0);
        loom.unroute(1, 9);
        CHECK.is("8 room for one", loom.talk(), 3);
        CHECK.is("8 at the end", loom.ofRoute(1, 9, 0), 10);
        CHECK.is("8 the same once more, in its place", loom.talk(), 4);
        CHECK.is("8 to 12 is no room", loom.routeTo(1, 12), -1);
    }

    private static void costOfNine() {
        for (int cost = 1; cost <= 9; cost++) {
            NetLoom loom = Nets.line(3, 8, 1);
            loom.node(50);
            loom.route(1, 50, 6, 1, cost);
            loom.talk();
            boolean isTold = cost + 1 < 9;
            routesAre("told with " + cost, loom, 0,
                    "+11 by 0 for 1" + (isTold ? ", +50 by 0 for " + (cost + 1) : ""));
            loom.unroute(1, 0);
            loom.route(1, 50, 6, 1, 1);
            loom.talk();
            loom.unroute(1, 2);
            loom.route(1, 50, 6, 1, cost);
            loom.talk();
            CHECK.is("8 it is gone, as told with " + cost, loom.routeTo(0, 50) != -1, isTold);
        }
    }

    private static void goneAsNotTold() {
        NetLoom loom = Nets.talkedLine(4, 8, 1);
        loom.up(2, false);
        CHECK.is("18 what is learned stays till the talk", loom.ofNode(0, 2), 3);
        loom.talk();
        routesAre("12 does not tell 13 any more", loom, 2, "+11 by 1 for 1, +10 by 1 for 2");
        routesAre("but 11 did, as it was ahead", loom, 0, "+11 by 0 for 1, +12 by 0 for 2, +13 by 0 for 3");
        routesAre("and 12 told 11", loom, 1, "+10 by 0 for 1, +12 by 1 for 1");
        loom.talk();
        routesAre("then it is gone there, too", loom, 0, "+11 by 0 for 1, +12 by 0 for 2");
        loom.route(0, 13, 6, 0, 1);
        loom.talk();
        routesAre("a told one stays", loom, 0, "+11 by 0 for 1, +12 by 0 for 2, 13 by 0 for 1");
    }

    /** What is not told any more leaves its place behind all that: what is new finds no room by that. */
    private static void goneBehindAllThat() {
        NetLoom loom = Nets.line(3, 8, 1);
        loom.node(50);
        loom.node(51);
        for (int i = 0; i < 8; i++) {
            loom.route(0, 40 + i, 6, 0, 1);
        }
        loom.route(1, 50, 6, 1, 1);
        loom.talk();
        CHECK.is("18 ten", loom.ofNode(0, 1), 10);
        loom.unroute(1, 0);
        loom.route(1, 51, 6, 1, 1);
        loom.talk();
        CHECK.is("8 50 is gone, and 51 found no room", loom.ofNode(0, 1), 9);
        loom.talk();
        CHECK.is("8 in the next one there is room for one", loom.ofNode(0, 1), 10);
        CHECK.is("8 12 is told ahead of it", loom.ofRoute(0, 9, 0), 12);
    }

    private static void talkOfTheFull() {
        NetLoom loom = new NetLoom();
        for (int i = 0; i < 6; i++) {
            loom.node(i);
        }
        for (int i = 0; i < 8; i++) {
            loom.link(i % 6, (i + 1 + i / 6) % 6, 8, 1);
        }
        // each end of each link; then the squares of how many links each has; then 10 at those of three links
        int[] due = {16, 4 * 9 + 2 * 4, 4 * 10 + 2 * 8, 4 * 10 + 2 * 8};
        for (int i = 0; i < due.length; i++) {
            CHECK.is("8 six nodes, eight links, talk " + i, loom.talk(), due[i]);
            int learned = 0;
            for (int node = 0; node < 6; node++) {
                learned += loom.ofNode(node, 2);
            }
            CHECK.is("8 that is of all nodes", learned, due[i]);
        }
        for (int node = 0; node < 6; node++) {
            for (int to = 0; to < 6; to++) {
                CHECK.is("8 a way from each to each", loom.routeTo(node, to) != -1, node != to);
            }
        }
    }
}
