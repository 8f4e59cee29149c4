import java.util.ArrayList;
import java.util.HashMap;
import java.util.HashSet;
import java.util.Iterator;
import java.util.List;
import java.util.Map;
import java.util.Set;
import java.util.TreeMap;
import java.util.function.Consumer;

/**
 * The document once more, written down as it reads, without a thought of speed or room: packets carry
 * their letters, and what would be is found by doing all calls again on a new object.
 */
final class NaiveLoom {
    static final class Packet {
        int source;
        int target;
        int kind;
        int mark;
        int number;
        int age = 6;
        int id;
        int made;
        List<Integer> letters = new ArrayList<>();
        boolean isFragment;
        int place;
        boolean isLast = true;

        Packet copy() {
            Packet p = new Packet();
            p.source = source;
            p.target = target;
            p.kind = kind;
            p.mark = mark;
            p.number = number;
            p.age = age;
            p.id = id;
            p.made = made;
            p.letters = new ArrayList<>(letters);
            p.isFragment = isFragment;
            p.place = place;
            p.isLast = isLast;
            return p;
        }
    }

    static final class OnTheWay {
        final int tick;
        final Packet packet;

        OnTheWay(int tick, Packet packet) {
            this.tick = tick;
            this.packet = packet;
        }
    }

    static final class Direction {
        int from;
        int to;
        List<Packet> row = new ArrayList<>();
        List<OnTheWay> way = new ArrayList<>();
        int left;
        Map<Integer, Boolean> doubled = new HashMap<>();
    }

    static final class Link {
        int size;
        int delay;
        boolean isUp = true;
        Direction[] directions = {new Direction(), new Direction()};
    }

    static final class Route {
        int value;
        int bits;
        int link;
        int cost;
        boolean isLearned;
    }

    static final class Rule {
        int node;
        int source;
        int sourceBits;
        int target;
        int targetBits;
        int kind;
        boolean isKnown;
        boolean isLet;
        int count;
    }

    static final class Kept {
        int first;
        List<Packet> fragments = new ArrayList<>();
    }

    static final class Node {
        int number;
        int address;
        List<Route> routes = new ArrayList<>();
        List<Rule> filters = new ArrayList<>();
        int insideValue;
        int insideBits = -1;
        /** By mark, kind, target: the source, and when it was used. */
        Map<String, int[]> notes = new TreeMap<>();
        Set<String> cameBy = new HashSet<>();
        Map<String, Kept> kept = new TreeMap<>();
        int plainGot;
        int plainMark = -1;
        int noteGot;
        int noteMark = -1;
        int noteNumber = -1;
    }

    static final class Stream {
        int node;
        int target;
        int window;
        int limit;
        List<Integer> letters = new ArrayList<>();
        int sent;
        int sure;
        Map<Integer, Integer> kept = new TreeMap<>();
        int alarm = -1;
        int tries;
        int told;
        boolean isEnded;
        boolean isOver;
        boolean isBroken;
        Map<Integer, Integer> dataEnds = new HashMap<>();

        int got() {
            int k = 0;
            while (kept.containsKey(k)) {
                k++;
            }
            return k;
        }
    }

    final List<Node> nodes = new ArrayList<>();
    final List<Link> links = new ArrayList<>();
    final List<Stream> streams = new ArrayList<>();
    final List<Rule> captures = new ArrayList<>();
    final int[] losses = new int[7];
    final List<Integer> times = new ArrayList<>();
    final List<Consumer<NaiveLoom>> done = new ArrayList<>();
    int now;
    int ids;

    static void index(boolean isGood) {
        if (!isGood) {
            throw new IndexOutOfBoundsException();
        }
    }

    static void argument(boolean isGood) {
        if (!isGood) {
            throw new IllegalArgumentException();
        }
    }

    static void state(boolean isGood) {
        if (!isGood) {
            throw new IllegalStateException();
        }
    }

    static boolean among(int value, int least, int most) {
        return value >= least && value <= most;
    }

    static String sixBits(int value) {
        StringBuilder s = new StringBuilder();
        for (int bit = 5; bit >= 0; bit--) {
            s.append((value >> bit) & 1);
        }
        return s.toString();
    }

    static boolean hasPrefix(int address, int value, int bits) {
        return sixBits(address).startsWith(sixBits(value).substring(0, bits));
    }

    // ---- what is told

    int node(int address) {
        argument(among(address, 0, 63));
        for (Node n : nodes) {
            argument(n.address != address);
        }
        state(nodes.size() < 6);
        Node n = new Node();
        n.number = nodes.size();
        n.address = address;
        nodes.add(n);
        done.add(m -> m.node(address));
        return n.number;
    }

    int link(int one, int other, int size, int delay) {
        index(among(one, 0, nodes.size() - 1) && among(other, 0, nodes.size() - 1));
        argument(one != other && among(size, 2, 8) && among(delay, 1, 3));
        state(links.size() < 8);
        Link l = new Link();
        l.size = size;
        l.delay = delay;
        l.directions[0].from = one;
        l.directions[0].to = other;
        l.directions[1].from = other;
        l.directions[1].to = one;
        links.add(l);
        done.add(m -> m.link(one, other, size, delay));
        return links.size() - 1;
    }

    int up(int link, boolean is) {
        index(among(link, 0, links.size() - 1));
        Link l = links.get(link);
        l.isUp = is;
        int lost = 0;
        if (!is) {
            for (Direction d : l.directions) {
                lost += d.way.size();
                d.way.clear();
            }
        }
        losses[3] += lost;
        done.add(m -> m.up(link, is));
        return lost;
    }

    int mark(int link, boolean isBack, int many, boolean isDoubled) {
        index(among(link, 0, links.size() - 1));
        argument(among(many, 1, 20));
        Direction d = links.get(link).directions[isBack ? 1 : 0];
        d.doubled.put(d.left + many, isDoubled);
        done.add(m -> m.mark(link, isBack, many, isDoubled));
        return d.left;
    }

    boolean hasEnd(int link, int node) {
        Direction d = links.get(link).directions[0];
        return d.from == node || d.to == node;
    }

    int route(int node, int value, int bits, int link, int cost) {
        index(among(node, 0, nodes.size() - 1) && among(link, 0, links.size() - 1) && hasEnd(link, node));
        argument(among(value, 0, 63) && among(bits, 0, 6) && among(cost, 1, 9));
        Node n = nodes.get(node);
        state(n.routes.size() < 10);
        Route r = new Route();
        r.value = value;
        r.bits = bits;
        r.link = link;
        r.cost = cost;
        n.routes.add(r);
        done.add(m -> m.route(node, value, bits, link, cost));
        return n.routes.size() - 1;
    }

    boolean unroute(int node, int k) {
        index(among(node, 0, nodes.size() - 1) && among(k, 0, nodes.get(node).routes.size() - 1));
        boolean was = nodes.get(node).routes.remove(k).isLearned;
        done.add(m -> m.unroute(node, k));
        return was;
    }

    private static final class Told {
        int to;
        int link;
        int address;
        int cost;
    }

    int talk() {
        List<Told> all = new ArrayList<>();
        for (Node n : nodes) {
            for (int link = 0; link < links.size(); link++) {
                if (links.get(link).isUp && hasEnd(link, n.number)) {
                    tellOver(n, link, all);
                }
            }
        }
        Set<String> told = new HashSet<>();
        for (Told t : all) {
            Node n = nodes.get(t.to);
            if (n.address == t.address) {
                continue;
            }
            told.add(t.to + " " + t.link + " " + t.address);
            Route old = null;
            for (Route r : n.routes) {
                if (r.isLearned && r.value == t.address && r.link == t.link) {
                    old = r;
                }
            }
            if (t.cost + 1 >= 9) {
                n.routes.remove(old);
            } else if (old != null) {
                old.cost = t.cost + 1;
            } else if (n.routes.size() < 10) {
                Route r = new Route();
                r.value = t.address;
                r.bits = 6;
                r.link = t.link;
                r.cost = t.cost + 1;
                r.isLearned = true;
                n.routes.add(r);
            }
        }
        int learned = 0;
        for (Node n : nodes) {
            n.routes.removeIf(r -> r.isLearned && !told.contains(n.number + " " + r.link + " " + r.value));
            learned += n.routes.stream().filter(r -> r.isLearned).count();
        }
        done.add(m -> m.talk());
        return learned;
    }

    private void tellOver(Node n, int link, List<Told> all) {
        Direction d = links.get(link).directions[0];
        int to = d.from == n.number ? d.to : d.from;
        for (int i = -1; i < nodes.size(); i++) {
            Node about = i == -1 ? n : nodes.get(i);
            if (i == n.number) {
                continue;
            }
            int best = i == -1 ? -1 : best(n, about.address);
            if (i != -1 && (best == -1 || n.routes.get(best).link == link)) {
                continue;
            }
            Told t = new Told();
            t.to = to;
            t.link = link;
            t.address = about.address;
            t.cost = i == -1 ? 0 : n.routes.get(best).cost;
            all.add(t);
        }
    }

    /** By elimination: each test leaves those that are equally good. */
    int best(Node n, int address) {
        List<Integer> fit = new ArrayList<>();
        for (int k = 0; k < n.routes.size(); k++) {
            Route r = n.routes.get(k);
            if (links.get(r.link).isUp && hasPrefix(address, r.value, r.bits)) {
                fit.add(k);
            }
        }
        fit.sort((a, b) -> {
            Route x = n.routes.get(a);
            Route y = n.routes.get(b);
            int c = Integer.compare(y.bits, x.bits);
            c = c != 0 ? c : Integer.compare(x.cost, y.cost);
            c = c != 0 ? c : Boolean.compare(x.isLearned, y.isLearned);
            c = c != 0 ? c : Integer.compare(x.link, y.link);
            return c != 0 ? c : Integer.compare(a, b);
        });
        return fit.isEmpty() ? -1 : fit.get(0);
    }

    static Rule rule(int node, int source, int sourceBits, int target, int targetBits, int kind,
            boolean isKnown, boolean isLet) {
        argument(among(source, 0, 63) && among(target, 0, 63) && among(sourceBits, 0, 6)
                && among(targetBits, 0, 6) && among(kind, -1, 3));
        Rule r = new Rule();
        r.node = node;
        r.source = source;
        r.sourceBits = sourceBits;
        r.target = target;
        r.targetBits = targetBits;
        r.kind = kind;
        r.isKnown = isKnown;
        r.isLet = isLet;
        return r;
    }

    int filter(int node, int source, int sourceBits, int target, int targetBits, int kind,
            boolean isKnown, boolean isLet) {
        index(among(node, 0, nodes.size() - 1));
        Rule r = rule(node, source, sourceBits, target, targetBits, kind, isKnown, isLet);
        state(nodes.get(node).filters.size() < 4);
        nodes.get(node).filters.add(r);
        done.add(m -> m.filter(node, source, sourceBits, target, targetBits, kind, isKnown, isLet));
        return nodes.get(node).filters.size();
    }

    int unfilter(int node) {
        index(among(node, 0, nodes.size() - 1));
        int were = nodes.get(node).filters.size();
        nodes.get(node).filters.clear();
        done.add(m -> m.unfilter(node));
        return were;
    }

    int translator(int node, int value, int bits) {
        index(among(node, 0, nodes.size() - 1));
        argument(among(value, 0, 63) && among(bits, -1, 6));
        nodes.get(node).insideValue = value;
        nodes.get(node).insideBits = bits;
        done.add(m -> m.translator(node, value, bits));
        return nodes.get(node).notes.size();
    }

    int capture(int node, int source, int sourceBits, int target, int targetBits, int kind) {
        index(among(node, 0, nodes.size() - 1));
        Rule r = rule(node, source, sourceBits, target, targetBits, kind, false, true);
        state(captures.size() < 3);
        captures.add(r);
        done.add(m -> m.capture(node, source, sourceBits, target, targetBits, kind));
        return captures.size() - 1;
    }

    // ---- what is sent

    Packet make(Node n, int target, int kind, int mark, int number) {
        Packet p = new Packet();
        p.source = n.address;
        p.target = target;
        p.kind = kind;
        p.mark = mark;
        p.number = number;
        p.id = ids++;
        p.made = now;
        return p;
    }

    void goFrom(Node n, Packet p) {
        n.cameBy.add(p.source + ">" + p.target);
        routeAt(n, p);
    }

    void routeAt(Node n, Packet p) {
        if (p.target == n.address) {
            got(n, p);
            return;
        }
        int k = best(n, p.target);
        if (k == -1) {
            lose(n, p, 0);
            return;
        }
        Link l = links.get(n.routes.get(k).link);
        Direction d = l.directions[l.directions[0].from == n.number ? 0 : 1];
        for (Packet piece : cut(p, l.size)) {
            if (d.row.size() == 5) {
                losses[1]++;
            } else {
                d.row.add(piece);
            }
        }
    }

    static List<Packet> cut(Packet p, int size) {
        List<Packet> pieces = new ArrayList<>();
        if (p.letters.size() <= size) {
            pieces.add(p.copy());
            return pieces;
        }
        for (int at = 0; at < p.letters.size(); at += size) {
            int end = Math.min(p.letters.size(), at + size);
            Packet piece = p.copy();
            piece.letters = new ArrayList<>(p.letters.subList(at, end));
            piece.isFragment = true;
            piece.place = p.place + at;
            piece.isLast = p.isLast && end == p.letters.size();
            pieces.add(piece);
        }
        return pieces;
    }

    void lose(Node n, Packet p, int loss) {
        losses[loss]++;
        if (p.kind != 3) {
            goFrom(n, make(n, p.source, 3, loss, p.id));
        }
    }

    void got(Node n, Packet p) {
        if (p.isFragment) {
            keepFragment(n, p);
        } else if (p.kind == 0) {
            n.plainGot++;
            n.plainMark = p.mark;
            times.add(now - p.made);
        } else if (p.kind == 1) {
            gotData(n, p);
        } else if (p.kind == 2) {
            gotAck(n, p);
        } else {
            n.noteGot++;
            n.noteMark = p.mark;
            n.noteNumber = p.number;
            for (Stream s : streams) {
                Integer end = s.dataEnds.get(p.number);
                if (s.node == n.number && end != null && end > s.sure) {
                    s.told++;
                }
            }
        }
    }

    void keepFragment(Node n, Packet p) {
        String key = p.source + "/" + p.id;
        Kept kept = n.kept.get(key);
        if (kept == null) {
            kept = new Kept();
            kept.first = now;
            n.kept.put(key, kept);
        }
        kept.fragments.add(p.copy());
        Map<Integer, Integer> letters = new TreeMap<>();
        int size = -1;
        for (Packet f : kept.fragments) {
            for (int i = 0; i < f.letters.size(); i++) {
                letters.put(f.place + i, f.letters.get(i));
            }
            size = f.isLast ? f.place + f.letters.size() : size;
        }
        if (size == letters.size()) {
            n.kept.remove(key);
            Packet whole = p.copy();
            whole.isFragment = false;
            whole.place = 0;
            whole.letters = new ArrayList<>(letters.values());
            got(n, whole);
        }
    }

    void gotData(Node n, Packet p) {
        Stream s = streams.get(p.mark);
        if (!s.isBroken) {
            for (int i = 0; i < p.letters.size(); i++) {
                s.kept.put(p.number + i, p.letters.get(i));
            }
        }
        goFrom(n, make(n, p.source, 2, p.mark, s.got()));
    }

    void gotAck(Node n, Packet p) {
        Stream s = streams.get(p.mark);
        if (s.node != n.number || s.isBroken || s.isOver || p.number <= s.sure) {
            return;
        }
        s.sure = p.number;
        s.window = Math.min(s.limit, s.window + 1);
        s.tries = 0;
        s.alarm = s.sure < s.sent ? now + 6 : -1;
        s.isOver = s.isEnded && s.sure == s.letters.size();
    }

    int plain(int node, int target, int mark, int size) {
        index(among(node, 0, nodes.size() - 1));
        argument(among(target, 0, 63) && among(mark, 0, 99) && among(size, 0, 8));
        Packet p = make(nodes.get(node), target, 0, mark, 0);
        for (int i = 0; i < size; i++) {
            p.letters.add(mark % 10);
        }
        int id = p.id;
        goFrom(nodes.get(node), p);
        done.add(m -> m.plain(node, target, mark, size));
        return id;
    }

    int stream(int node, int target, int window) {
        index(among(node, 0, nodes.size() - 1));
        argument(nodes.stream().anyMatch(n -> n.number != node && n.address == target) && among(window, 4, 12));
        state(streams.size() < 4);
        Stream s = new Stream();
        s.node = node;
        s.target = target;
        s.window = window;
        s.limit = window;
        streams.add(s);
        done.add(m -> m.stream(node, target, window));
        return streams.size() - 1;
    }

    int write(int stream, int letter) {
        index(among(stream, 0, streams.size() - 1));
        argument(among(letter, 0, 9));
        Stream s = streams.get(stream);
        state(s.letters.size() < 30 && !s.isEnded && !s.isBroken);
        s.letters.add(letter);
        done.add(m -> m.write(stream, letter));
        return s.letters.size();
    }

    int end(int stream) {
        index(among(stream, 0, streams.size() - 1));
        Stream s = streams.get(stream);
        state(!s.isEnded && !s.isBroken);
        s.isEnded = true;
        s.isOver = s.sure == s.letters.size();
        done.add(m -> m.end(stream));
        return s.letters.size() - s.sure;
    }

    int allLost() {
        int sum = 0;
        for (int loss : losses) {
            sum += loss;
        }
        return sum;
    }

    int run(int ticks) {
        argument(among(ticks, 1, 60));
        int before = allLost();
        for (int i = 0; i < ticks; i++) {
            tick();
        }
        done.add(m -> m.run(ticks));
        return allLost() - before;
    }

    void tick() {
        now++;
        for (Link l : links) {
            for (Direction d : l.directions) {
                List<Packet> come = new ArrayList<>();
                for (OnTheWay w : d.way) {
                    if (w.tick == now) {
                        come.add(w.packet);
                    }
                }
                d.way.removeIf(w -> w.tick == now);
                for (Packet p : come) {
                    comeTo(nodes.get(d.to), p);
                }
            }
        }
        for (Node n : nodes) {
            n.notes.values().removeIf(note -> note[1] + 20 <= now);
            for (Iterator<Kept> i = n.kept.values().iterator(); i.hasNext();) {
                if (i.next().first + 12 <= now) {
                    i.remove();
                    losses[5]++;
                }
            }
        }
        for (int i = 0; i < streams.size(); i++) {
            streamStep(i, streams.get(i));
        }
        for (Link l : links) {
            for (Direction d : l.directions) {
                if (l.isUp && !d.row.isEmpty()) {
                    leave(l, d);
                }
            }
        }
    }

    void leave(Link l, Direction d) {
        Packet p = d.row.remove(0);
        d.left++;
        Boolean isDoubled = d.doubled.get(d.left);
        if (isDoubled != null && !isDoubled) {
            losses[2]++;
            return;
        }
        d.way.add(new OnTheWay(now + l.delay, p));
        if (isDoubled != null) {
            d.way.add(new OnTheWay(now + l.delay, p.copy()));
        }
    }

    boolean fits(Rule r, Node n, Packet p) {
        return hasPrefix(p.source, r.source, r.sourceBits) && hasPrefix(p.target, r.target, r.targetBits)
                && (r.kind == -1 || r.kind == p.kind)
                && (!r.isKnown || n.cameBy.contains(p.target + ">" + p.source));
    }

    void comeTo(Node n, Packet p) {
        for (Rule c : captures) {
            if (c.node == n.number && fits(c, n, p)) {
                c.count++;
            }
        }
        for (Rule f : n.filters) {
            if (fits(f, n, p)) {
                if (!f.isLet) {
                    losses[6]++;
                    return;
                }
                break;
            }
        }
        n.cameBy.add(p.source + ">" + p.target);
        if (p.target == n.address) {
            int[] note = n.notes.get(p.mark + "/" + p.kind + "/" + p.source);
            if (note != null) {
                note[1] = now;
                p.target = note[0];
            }
        }
        if (p.target == n.address) {
            got(n, p);
            return;
        }
        p.age--;
        if (p.age == 0) {
            lose(n, p, 4);
            return;
        }
        if (n.insideBits != -1 && hasPrefix(p.source, n.insideValue, n.insideBits)
                && !hasPrefix(p.target, n.insideValue, n.insideBits)) {
            int[] answers = {0, 2, 1, 3};
            n.notes.put(p.mark + "/" + answers[p.kind] + "/" + p.target, new int[] {p.source, now});
            p.source = n.address;
        }
        routeAt(n, p);
    }

    void streamStep(int number, Stream s) {
        if (s.isBroken || s.isOver) {
            return;
        }
        if (s.alarm != -1 && s.alarm <= now) {
            if (s.tries == 2) {
                s.isBroken = true;
                s.alarm = -1;
                return;
            }
            s.tries++;
            s.alarm = now + (s.tries == 2 ? 24 : 12);
            s.window = Math.max(4, s.window / 2);
            data(number, s, s.sure, Math.min(4, s.sent - s.sure));
        }
        while (s.sent < s.letters.size() && s.sent - s.sure < s.window) {
            int count = Math.min(4, Math.min(s.letters.size() - s.sent, s.window - (s.sent - s.sure)));
            if (s.sent == s.sure) {
                s.alarm = now + 6;
                s.tries = 0;
            }
            int first = s.sent;
            s.sent += count;
            data(number, s, first, count);
        }
    }

    void data(int number, Stream s, int first, int count) {
        Packet p = make(nodes.get(s.node), s.target, 1, number, first);
        p.letters.addAll(s.letters.subList(first, first + count));
        s.dataEnds.put(p.id, first + count);
        goFrom(nodes.get(s.node), p);
    }

    // ---- what one asks

    int ofNode(int node, int what) {
        index(among(node, 0, nodes.size() - 1));
        argument(among(what, 0, 10));
        Node n = nodes.get(node);
        int learned = (int) n.routes.stream().filter(r -> r.isLearned).count();
        return new int[] {n.address, n.routes.size(), learned, n.plainGot, n.plainMark, n.noteGot, n.noteMark,
            n.noteNumber, n.kept.size(), n.notes.size(), n.filters.size()}[what];
    }

    int routeTo(int node, int address) {
        index(among(node, 0, nodes.size() - 1));
        argument(among(address, 0, 63));
        return best(nodes.get(node), address);
    }

    int ofRoute(int node, int k, int what) {
        index(among(node, 0, nodes.size() - 1) && among(k, 0, nodes.get(node).routes.size() - 1));
        argument(among(what, 0, 4));
        Route r = nodes.get(node).routes.get(k);
        return new int[] {r.value, r.bits, r.link, r.cost, r.isLearned ? 1 : 0}[what];
    }

    int ofLink(int link, boolean isBack, int what) {
        index(among(link, 0, links.size() - 1));
        argument(among(what, 0, 6));
        Direction d = links.get(link).directions[isBack ? 1 : 0];
        int letters = d.row.stream().mapToInt(p -> p.letters.size()).sum();
        return new int[] {d.from, d.row.size(), d.way.size(), d.left, d.row.isEmpty() ? -1 : d.row.get(0).id,
            letters, links.get(link).isUp ? 1 : 0}[what];
    }

    int ofStream(int stream, int what) {
        index(among(stream, 0, streams.size() - 1));
        argument(among(what, 0, 9));
        Stream s = streams.get(stream);
        int how = s.isBroken ? 3 : s.isOver ? 2 : s.isEnded ? 1 : 0;
        return new int[] {how, s.letters.size(), s.sent, s.sure, s.window, s.got(), s.kept.size() - s.got(),
            s.alarm, s.tries, s.told}[what];
    }

    int letter(int stream, int k) {
        index(among(stream, 0, streams.size() - 1) && among(k, 0, streams.get(stream).got() - 1));
        return streams.get(stream).kept.get(k);
    }

    int lost(int loss) {
        argument(among(loss, 0, 6));
        return losses[loss];
    }

    int captured(int capture) {
        index(among(capture, 0, captures.size() - 1));
        return captures.get(capture).count;
    }

    int many(int what) {
        argument(among(what, 0, 9));
        int rows = 0;
        int way = 0;
        for (Link l : links) {
            for (Direction d : l.directions) {
                rows += d.row.size();
                way += d.way.size();
            }
        }
        int kept = 0;
        for (Node n : nodes) {
            for (Kept k : n.kept.values()) {
                kept += k.fragments.size();
            }
        }
        int got = streams.stream().mapToInt(s -> s.got()).sum();
        return new int[] {nodes.size(), links.size(), streams.size(), now, ids, rows, way, kept,
            captures.size(), got}[what];
    }

    double meanTime() {
        double sum = 0;
        for (int time : times) {
            sum += time;
        }
        return times.isEmpty() ? 0 : sum / times.size();
    }

    // ---- what would be

    int trace(int node, int address, int k) {
        index(among(node, 0, nodes.size() - 1));
        argument(among(address, 0, 63) && k >= 0);
        List<Integer> path = new ArrayList<>();
        path.add(node);
        int age = 6;
        int at = node;
        while (age > 0 && nodes.get(at).address != address && best(nodes.get(at), address) != -1) {
            Direction[] d = links.get(nodes.get(at).routes.get(best(nodes.get(at), address)).link).directions;
            at = d[0].from == at ? d[0].to : d[0].from;
            path.add(at);
            age--;
        }
        return k < path.size() ? path.get(k) : -1;
    }

    NaiveLoom again() {
        NaiveLoom m = new NaiveLoom();
        for (Consumer<NaiveLoom> call : done) {
            call.accept(m);
        }
        return m;
    }

    int sureIn(int stream, int ticks) {
        index(among(stream, 0, streams.size() - 1));
        argument(among(ticks, 1, 60));
        NaiveLoom m = again();
        m.run(ticks);
        return m.streams.get(stream).sure;
    }

    int lostWithout(int link, int ticks) {
        index(among(link, 0, links.size() - 1));
        argument(among(ticks, 1, 60));
        NaiveLoom m = again();
        int before = m.allLost();
        m.up(link, false);
        m.run(ticks);
        return m.allLost() - before;
    }

    long digest() {
        List<Integer> v = new ArrayList<>();
        for (int what = 0; what <= 9; what++) {
            v.add(many(what));
        }
        for (int loss = 0; loss <= 6; loss++) {
            v.add(lost(loss));
        }
        for (Node n : nodes) {
            for (int what = 0; what <= 10; what++) {
                v.add(ofNode(n.number, what));
            }
            for (int k = 0; k < n.routes.size(); k++) {
                for (int what = 0; what <= 4; what++) {
                    v.add(ofRoute(n.number, k, what));
                }
            }
            for (Node to : nodes) {
                v.add(routeTo(n.number, to.address));
                for (int k = 0; k <= 3; k++) {
                    v.add(trace(n.number, to.address, k));
                }
            }
        }
        for (int link = 0; link < links.size(); link++) {
            for (int i = 0; i < 14; i++) {
                v.add(ofLink(link, i >= 7, i % 7));
            }
            v.add(lostWithout(link, 5));
        }
        for (int s = 0; s < streams.size(); s++) {
            for (int what = 0; what <= 9; what++) {
                v.add(ofStream(s, what));
            }
            for (int k = 0; k < streams.get(s).got(); k++) {
                v.add(letter(s, k));
            }
            v.add(sureIn(s, 10));
        }
        for (int c = 0; c < captures.size(); c++) {
            v.add(captured(c));
        }
        long d = 9612;
        for (int value : v) {
            d = d * 31 + value;
        }
        return d;
    }
}
