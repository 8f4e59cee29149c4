import java.util.ArrayList;
import java.util.List;

/** Promise 31 by its words: what is put into the digest, asked for by the other calls. */
final class DigestValues {
    private final NetLoom loom;
    private final List<Long> values = new ArrayList<>();

    private DigestValues(NetLoom loom) {
        this.loom = loom;
    }

    static List<Long> of(NetLoom loom) {
        DigestValues all = new DigestValues(loom);
        for (int what = 0; what <= 9; what++) {
            all.put(loom.many(what));
        }
        for (int loss = 0; loss <= 6; loss++) {
            all.put(loom.lost(loss));
        }
        for (int node = 0; node < loom.many(0); node++) {
            all.putNode(node);
        }
        for (int link = 0; link < loom.many(1); link++) {
            all.putLink(link);
        }
        for (int stream = 0; stream < loom.many(2); stream++) {
            all.putStream(stream);
        }
        for (int capture = 0; capture < loom.many(8); capture++) {
            all.put(loom.captured(capture));
        }
        return all.values;
    }

    private void put(long value) {
        values.add(value);
    }

    private void putNode(int node) {
        for (int what = 0; what <= 10; what++) {
            put(loom.ofNode(node, what));
        }
        for (int k = 0; k < loom.ofNode(node, 1); k++) {
            for (int what = 0; what <= 4; what++) {
                put(loom.ofRoute(node, k, what));
            }
        }
        for (int to = 0; to < loom.many(0); to++) {
            int address = loom.ofNode(to, 0);
            put(loom.routeTo(node, address));
            for (int k = 0; k <= 3; k++) {
                put(loom.trace(node, address, k));
            }
        }
    }

    private void putLink(int link) {
        for (int what = 0; what <= 6; what++) {
            put(loom.ofLink(link, false, what));
        }
        for (int what = 0; what <= 6; what++) {
            put(loom.ofLink(link, true, what));
        }
        put(loom.lostWithout(link, 5));
    }

    private void putStream(int stream) {
        for (int what = 0; what <= 9; what++) {
            put(loom.ofStream(stream, what));
        }
        for (int k = 0; k < loom.ofStream(stream, 5); k++) {
            put(loom.letter(stream, k));
        }
        put(loom.sureIn(stream, 10));
    }
}
