/** Counts the answers that are not as due, and ends a test. */
final class Due {
    private static int checked = 0;
    private static int wrong = 0;

    private Due() {
    }

    static void is(String what, long got, long want) {
        checked++;
        if (got != want) {
            wrong++;
            if (wrong <= 50) {
                System.out.println(what + " answered " + got + ", due is " + want);
            }
        }
    }

    /** What was asked, answered and set as status, in one row. */
    static void is(String what, LineOfHeirs house, int got, int want, int status) {
        is(what, got, want);
        is("status() after " + what, house.status(), status);
    }

    /** The whole chain, with what stands behind its end. */
    static void chain(String what, LineOfHeirs house, int... bodies) {
        is("ran() after " + what, house.ran(), bodies.length);
        for (int i = 0; i < bodies.length; i++) {
            is("chain(" + i + ") after " + what, house.chain(i), bodies[i]);
        }
        is("chain(" + bodies.length + ") after " + what, house.chain(bodies.length), LineOfHeirs.NONE);
    }

    static void end(String test) {
        System.out.println(test + ": " + checked + " checked, " + wrong + " not as due");
        if (wrong != 0) {
            System.exit(1);
        }
    }
}
