/** Long runs of calls, of all kinds, on a NetLoom and on the naive one: each answer is to be the same. */
public final class AgreementTest {
    private static final int RUNS = 300;
    private static final int CALLS = 250;

    private final Check check = new Check("AgreementTest");
    private long seed;
    private NetLoom loom;
    private NaiveLoom naive;
    private int run;
    private int number;

    public static void main(String[] args) {
        AgreementTest test = new AgreementTest();
        for (int run = 0; run < RUNS; run++) {
            test.runOnce(run);
        }
        test.check.end();
    }

    /** The same numbers each time: a wrong answer can be looked at again. */
    private int any(int count) {
        seed = seed * 6364136223846793005L + 1442695040888963407L;
        return (int) Long.remainderUnsigned(seed >>> 33, count);
    }

    /** Mostly from 0 below count, now and then beside that. */
    private int near(int count) {
        return any(25) == 0 ? any(count + 4) - 2 : any(Math.max(1, count));
    }

    private int in(int least, int most) {
        return any(40) == 0 ? (any(2) == 0 ? least - 1 : most + 1) : least + any(most - least + 1);
    }

    private boolean either() {
        return any(2) == 0;
    }

    private int address() {
        int nodes = naive.nodes.size();
        return nodes == 0 || any(12) == 0 ? in(0, 63) : naive.nodes.get(any(nodes)).address;
    }

    private int bits() {
        return any(3) == 0 ? 6 : any(3) == 0 ? 0 : in(0, 6);
    }

    private int kind() {
        return either() ? -1 : in(-1, 3);
    }

    private void runOnce(int which) {
        run = which;
        seed = 977L * which + 5;
        loom = new NetLoom();
        naive = new NaiveLoom();
        int nodes = 2 + any(5);
        number = 0;
        for (int i = 0; i < nodes; i++) {
            int address = any(64);
            same("node", () -> loom.node(address), () -> naive.node(address));
        }
        for (int i = 0; i < nodes + 1; i++) {
            tellLink();
        }
        for (int i = 0; i < any(5); i++) {
            same("talk", () -> loom.talk(), () -> naive.talk());
        }
        for (number = 1; number <= CALLS; number++) {
            oneCall();
            if (number % 50 == 0) {
                same("digest", () -> loom.digest(), () -> naive.digest());
            }
            same("meanTime", () -> Double.doubleToLongBits(loom.meanTime()),
                    () -> Double.doubleToLongBits(naive.meanTime()));
        }
    }

    private void same(String what, Check.Call mine, Check.Call due) {
        String got = answer(mine);
        String want = answer(due);
        if (!got.equals(want)) {
            check.fail("run " + run + ", call " + number + ": " + what + " answered " + got + ", due is " + want);
        }
    }

    private static String answer(Check.Call call) {
        try {
            return Long.toString(call.answer());
        } catch (RuntimeException e) {
            return e.getClass().getName();
        }
    }

    private void oneCall() {
        int what = any(100);
        if (what < 14) {
            tell();
        } else if (what < 50) {
            sendSome();
        } else if (what < 68) {
            int ticks = any(6) == 0 ? in(1, 60) : in(1, 6);
            same("run", () -> loom.run(ticks), () -> naive.run(ticks));
        } else {
            ask();
        }
    }

    private void tellLink() {
        int one = near(naive.nodes.size());
        int other = near(naive.nodes.size());
        int size = in(2, 8);
        int delay = in(1, 3);
        same("link", () -> loom.link(one, other, size, delay), () -> naive.link(one, other, size, delay));
    }

    private void tell() {
        int node = near(naive.nodes.size());
        int link = near(naive.links.size());
        int one = address();
        int oneBits = bits();
        int two = address();
        int twoBits = bits();
        int kind = kind();
        boolean is = either();
        boolean other = either();
        int many = any(3) == 0 ? in(1, 20) : in(1, 3);
        switch (any(14)) {
            case 0:
                same("node", () -> loom.node(one), () -> naive.node(one));
                break;
            case 1:
                tellLink();
                break;
            case 2:
                same("up", () -> loom.up(link, is || other), () -> naive.up(link, is || other));
                break;
            case 3:
            case 4:
            case 5:
                same("mark", () -> loom.mark(link, is, many, other), () -> naive.mark(link, is, many, other));
                break;
            case 6:
            case 7:
                int cost = in(1, 9);
                same("route", () -> loom.route(node, one, oneBits, link, cost),
                        () -> naive.route(node, one, oneBits, link, cost));
                break;
            case 8:
                int k = near(4);
                same("unroute", () -> loom.unroute(node, k) ? 1 : 0, () -> naive.unroute(node, k) ? 1 : 0);
                break;
            case 9:
                same("talk", () -> loom.talk(), () -> naive.talk());
                break;
            case 10:
                same("filter", () -> loom.filter(node, one, oneBits, two, twoBits, kind, is, other),
                        () -> naive.filter(node, one, oneBits, two, twoBits, kind, is, other));
                break;
            case 11:
                same("unfilter", () -> loom.unfilter(node), () -> naive.unfilter(node));
                break;
            case 12:
                int inside = any(5) == 0 ? -1 : in(1, 6);
                same("translator", () -> loom.translator(node, one, inside),
                        () -> naive.translator(node, one, inside));
                break;
            default:
                same("capture", () -> loom.capture(node, one, oneBits, two, twoBits, kind),
                        () -> naive.capture(node, one, oneBits, two, twoBits, kind));
                break;
        }
    }

    private void sendSome() {
        int node = near(naive.nodes.size());
        int stream = near(naive.streams.size());
        int target = address();
        int what = any(20);
        if (what < 8) {
            int mark = any(3) == 0 ? in(0, 99) : any(3);
            int size = in(0, 8);
            same("plain", () -> loom.plain(node, target, mark, size), () -> naive.plain(node, target, mark, size));
        } else if (what < 10) {
            int window = in(4, 12);
            same("stream", () -> loom.stream(node, target, window), () -> naive.stream(node, target, window));
        } else if (what < 19) {
            for (int i = 0; i < 4; i++) {
                int letter = in(0, 9);
                same("write", () -> loom.write(stream, letter), () -> naive.write(stream, letter));
            }
        } else if (any(4) == 0) {
            same("end", () -> loom.end(stream), () -> naive.end(stream));
        }
    }

    private void ask() {
        int node = near(naive.nodes.size());
        int link = near(naive.links.size());
        int stream = near(naive.streams.size());
        int address = address();
        int k = near(8);
        int what = in(0, 10);
        int ticks = any(4) == 0 ? in(1, 60) : in(1, 12);
        boolean isBack = either();
        switch (any(12)) {
            case 0:
                same("ofNode", () -> loom.ofNode(node, what), () -> naive.ofNode(node, what));
                break;
            case 1:
                same("routeTo", () -> loom.routeTo(node, address), () -> naive.routeTo(node, address));
                break;
            case 2:
                same("ofRoute", () -> loom.ofRoute(node, k, what), () -> naive.ofRoute(node, k, what));
                break;
            case 3:
                same("ofLink", () -> loom.ofLink(link, isBack, what), () -> naive.ofLink(link, isBack, what));
                break;
            case 4:
                same("ofStream", () -> loom.ofStream(stream, what), () -> naive.ofStream(stream, what));
                break;
            case 5:
                same("letter", () -> loom.letter(stream, k), () -> naive.letter(stream, k));
                break;
            case 6:
                same("lost", () -> loom.lost(k), () -> naive.lost(k));
                break;
            case 7:
                same("captured", () -> loom.captured(k - 2), () -> naive.captured(k - 2));
                break;
            case 8:
                same("many", () -> loom.many(what), () -> naive.many(what));
                break;
            case 9:
                same("trace", () -> loom.trace(node, address, k), () -> naive.trace(node, address, k));
                break;
            case 10:
                same("sureIn", () -> loom.sureIn(stream, ticks), () -> naive.sureIn(stream, ticks));
                break;
            default:
                same("lostWithout", () -> loom.lostWithout(link, ticks), () -> naive.lostWithout(link, ticks));
                break;
        }
    }
}
