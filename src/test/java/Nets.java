/** Networks that several tests begin with. */
final class Nets {
    private Nets() {
    }

    /** Nodes 0, 1, .. with the addresses 10, 11, .. in a line; link k joins node k to node k + 1. */
    static NetLoom line(int nodes, int size, int delay) {
        NetLoom loom = new NetLoom();
        for (int i = 0; i < nodes; i++) {
            loom.node(10 + i);
        }
        for (int i = 0; i + 1 < nodes; i++) {
            loom.link(i, i + 1, size, delay);
        }
        return loom;
    }

    /** Such a line in which all know the ways to all. */
    static NetLoom talkedLine(int nodes, int size, int delay) {
        NetLoom loom = line(nodes, size, delay);
        for (int i = 0; i < nodes; i++) {
            loom.talk();
        }
        return loom;
    }

    static void write(NetLoom loom, int stream, int letters) {
        for (int i = 0; i < letters; i++) {
            loom.write(stream, i % 10);
        }
    }

    /**
     * A triangle with some of everything, and room for more of it: 3 nodes (addresses 0, 21, 63), 3 links,
     * 2 streams, 1 capture; at node 1 are 5 routes and 1 filter.
     */
    static NetLoom some() {
        NetLoom loom = new NetLoom();
        loom.node(0);
        loom.node(21);
        loom.node(63);
        loom.link(0, 1, 8, 1);
        loom.link(1, 2, 3, 2);
        loom.link(2, 0, 2, 3);
        loom.talk();
        loom.talk();
        loom.route(1, 40, 3, 1, 5);
        loom.filter(1, 63, 6, 0, 0, 0, true, false);
        loom.translator(1, 0, 6);
        loom.capture(2, 0, 0, 0, 0, -1);
        loom.stream(0, 63, 6);
        loom.stream(2, 21, 12);
        write(loom, 0, 5);
        write(loom, 1, 9);
        loom.route(0, 63, 6, 0, 1);
        loom.mark(0, false, 6, false);
        loom.mark(1, true, 2, true);
        loom.plain(0, 63, 7, 8);
        loom.plain(2, 0, 8, 7);
        loom.run(4);
        loom.plain(0, 21, 9, 1);
        loom.plain(0, 63, 10, 5);
        loom.plain(2, 0, 11, 4);
        write(loom, 0, 2);
        return loom;
    }

    /**
     * As much of everything as there may be: 6 nodes (addresses 10 to 15), 8 links, 4 streams, 3 captures;
     * at node 0 are 10 routes and 4 filters. In stream 0 are 30 letters, 1 is ended, 2 is over, 3 is broken.
     */
    static NetLoom full() {
        NetLoom loom = talkedLine(6, 2, 1);
        loom.link(5, 0, 8, 2);
        loom.link(2, 0, 3, 3);
        loom.link(1, 4, 5, 1);
        for (int k = loom.ofNode(0, 1); k < 10; k++) {
            loom.route(0, 40 + k, 6, 0, 1);
        }
        for (int i = 0; i < 4; i++) {
            loom.filter(0, 32 + i, 6, 0, 0, -1, false, false);
        }
        for (int i = 0; i < 3; i++) {
            loom.capture(i, 0, 0, 0, 0, i);
        }
        for (int i = 0; i < 4; i++) {
            loom.stream(i, 11 + i, 12);
        }
        loom.end(2);
        loom.write(3, 1);
        loom.up(3, false);
        loom.run(43);
        loom.up(3, true);
        write(loom, 0, 30);
        write(loom, 1, 7);
        loom.end(1);
        loom.run(2);
        loom.plain(5, 14, 5, 8);
        loom.plain(5, 14, 6, 8);
        return loom;
    }
}
