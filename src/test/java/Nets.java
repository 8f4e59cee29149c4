/** Networks that several tests begin with. */
final class Nets {
    private Nets() {
    }

    /** Nodes 0, 1, .. with the addresses 10, 11, .. in a line; link k joins node k to node k + 1. */
    static NetLoom line(int nodes, int size, int delay) {
        NetLoom loom = new NetLoom();
        for (int i = 0; i < nodes; i++) {
            loom.node(10 + i);
        }
        for (int i = 0; i + 1 < nodes; i++) {
            loom.link(i, i + 1, size, delay);
        }
        return loom;
    }

    /** Such a line in which all know the ways to all. */
    static NetLoom talkedLine(int nodes, int size, int delay) {
        NetLoom loom = line(nodes, size, delay);
        for (int i = 0; i < nodes; i++) {
            loom.talk();
        }
        return loom;
    }

    static void write(NetLoom loom, int stream, int letters) {
        for (int i = 0; i < letters; i++) {
            loom.write(stream, i % 10);
        }
    }
}
