/** Counts wrong answers of a test, and prints each. */
final class Check {
    interface Call {
        long answer();
    }

    private final String name;
    private int wrong;

    Check(String name) {
        this.name = name;
    }

    void is(String what, long got, long want) {
        if (got != want) {
            fail(what + " answered " + got + ", due is " + want);
        }
    }

    void is(String what, boolean got, boolean want) {
        is(what, got ? 1 : 0, want ? 1 : 0);
    }

    void isMean(String what, double got, double want) {
        if (got != want) {
            fail(what + " answered " + got + ", due is " + want);
        }
    }

    /** The call is to throw just this exception, and to leave the object as it was. */
    void refuses(String what, NetLoom loom, Class<?> due, Call call) {
        long before = loom.digest();
        Class<?> thrown = null;
        try {
            call.answer();
        } catch (RuntimeException e) {
            thrown = e.getClass();
        }
        if (thrown != due) {
            fail(what + " threw " + thrown + ", due is " + due);
        }
        is(what + " changed the digest, which", loom.digest(), before);
    }

    void fail(String text) {
        wrong++;
        System.out.println(name + ": " + text);
    }

    void end() {
        System.out.println(name + (wrong == 0 ? ": all as due" : ": " + wrong + " wrong"));
        if (wrong != 0) {
            System.exit(1);
        }
    }
}
