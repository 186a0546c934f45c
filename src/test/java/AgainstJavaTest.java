/** Runs of up to 512 calls, by a fixed row of numbers, against the house whose bodies Java chooses. */
public final class AgainstJavaTest {
    private static final int CALLS = 512;
    private static final int MOST_PLACES = 6;
    // What a call costs at the most: itself, status(), ran() and chain()s.
    private static final int DEAREST = 3 + MOST_PLACES + 1;
    private static final int[] EDGES = {0, 1, -1, 2, 3, 85, 255, -256, 65536, Integer.MAX_VALUE, Integer.MIN_VALUE};

    private static long seed = 20261118L;

    private final LineOfHeirs house = new LineOfHeirs();
    private final JavaHouse java = new JavaHouse();
    private final String run;
    private int devices = 0;
    private int links = 0;
    private int calls = 0;

    private AgainstJavaTest(String run) {
        this.run = run;
    }

    private static int next(int below) {
        seed = seed * 6364136223846793005L + 1442695040888963407L;
        return (int) ((seed >>> 33) % below);
    }

    private static int number() {
        switch (next(4)) {
            case 0: return EDGES[next(EDGES.length)];
            case 1: return next(1 << 30) * 4 + next(4);
            default: return next(200) - 100;
        }
    }

    /** A number from 0 on, now and then one just outside. */
    private static int oneOf(int below) {
        switch (next(40)) {
            case 0: return -1;
            case 1: return below;
            case 2: return number();
            default: return below == 0 ? 0 : next(below);
        }
    }

    /** Whether as many calls are left of the 512 that the document speaks of. */
    private boolean hasLeft(int wanted) {
        return calls + wanted <= CALLS;
    }

    private void same(String call, int got, int want) {
        String what = run + ": " + call;
        calls += 3;
        Due.is(what, got, want);
        Due.is(what + ", then status()", house.status(), java.status());
        Due.is(what + ", then ran()", house.ran(), java.ran());
    }

    /** As same(), and looks into the chain at its end and at places by chance, or at all of a short one. */
    private void sameWithChain(String call, int got, int want) {
        same(call, got, want);
        int end = Math.min(64, java.ran());
        int places = end <= MOST_PLACES ? end + 1 : MOST_PLACES;
        for (int place = 0; place < places; place++) {
            int i = end <= MOST_PLACES ? place : place < 2 ? end - place : next(66) - 1;
            calls++;
            Due.is(run + ": " + call + ", then chain(" + i + ")", house.chain(i), java.chain(i));
        }
    }

    private void device(int kind, int v) {
        calls++;
        Due.is(run + ": device(" + kind + ", " + v + ")", house.device(kind, v), java.device(kind, v));
        devices = java.size(0);
    }

    private void call(int d, int act, int way, int x) {
        sameWithChain("call(" + d + ", " + act + ", " + way + ", " + x + ")", house.call(d, act, way, x),
            java.call(d, act, way, x));
    }

    private void every(int act, int way, int x) {
        sameWithChain("every(" + act + ", " + way + ", " + x + ")", house.every(act, way, x), java.every(act, way, x));
    }

    private void feed(int d, int bytes) {
        sameWithChain("feed(" + d + ", " + bytes + ")", house.feed(d, bytes), java.feed(d, bytes));
    }

    private void link(int a, int b) {
        calls++;
        Due.is(run + ": link(" + a + ", " + b + ")", house.link(a, b), java.link(a, b));
        links = java.size(1);
    }

    private void pass(int d, int x) {
        sameWithChain("pass(" + d + ", " + x + ")", house.pass(d, x), java.pass(d, x));
    }

    private void look() {
        int d = oneOf(devices);
        int what = oneOf(7);
        same("able(" + d + ", " + what + ")", house.able(d, what), java.able(d, what));
        same("size(" + what + ")", house.size(what), java.size(what));
        same("state(" + d + ", " + what + ")", house.state(d, what), java.state(d, what));
    }

    private void anyCall() {
        switch (next(7)) {
            case 0:
                every(oneOf(12), oneOf(7), number());
                break;
            case 1:
                feed(oneOf(devices), number());
                break;
            case 2:
                pass(oneOf(devices), number());
                break;
            case 3:
                look();
                break;
            default:
                call(oneOf(devices), oneOf(12), oneOf(7), number());
        }
    }

    /** What there is to ask of each device, as far as the calls go. */
    private void allStates() {
        for (int d = 0; d < devices; d++) {
            for (int what = 0; what < 6 && hasLeft(1); what++) {
                calls++;
                Due.is(run + ": state(" + d + ", " + what + ")", house.state(d, what), java.state(d, what));
            }
        }
    }

    private static void eachEdge(int kind, int way, int act) {
        AgainstJavaTest test = new AgainstJavaTest("kind " + kind);
        test.device(kind, 1000 * kind + 7);
        for (int edge : EDGES) {
            test.call(0, act, way, edge);
        }
        test.allStates();
    }

    private static void eachActOfEachKind() {
        for (int kind = 0; kind < 11; kind++) {
            for (int way = 0; way < 7; way++) {
                for (int act = 0; act < 12; act++) {
                    eachEdge(kind, way, act);
                }
            }
        }
    }

    private static void eachByteOfEachKind() {
        for (int kind = 0; kind < 11; kind++) {
            for (int first = 0; first < 256; first += 32) {
                AgainstJavaTest test = new AgainstJavaTest("fed kind " + kind);
                test.device(kind, -5);
                for (int code = first; code < first + 32; code++) {
                    test.feed(0, 0x15 << 24 | code << 16 | next(256) << 8 | next(256));
                }
                test.allStates();
            }
        }
    }

    private static void mixed(int number, int mostDevices, int mostLinks) {
        AgainstJavaTest test = new AgainstJavaTest("mixed run " + number);
        while (test.hasLeft(DEAREST + 6 * test.devices)) {
            int choice = next(10);
            if (choice < 4 && test.devices < mostDevices) {
                test.device(oneOf(11), number());
            } else if (choice < 7 && test.links < mostLinks) {
                test.link(oneOf(test.devices), oneOf(test.devices));
            } else {
                test.anyCall();
            }
        }
        test.allStates();
    }

    /** Fills the house first, so that the calls meet its limits. */
    private static void full(int number, int devices, int links) {
        AgainstJavaTest test = new AgainstJavaTest("full run " + number);
        for (int i = 0; i < devices; i++) {
            test.device(next(11), number());
        }
        for (int i = 0; i < links; i++) {
            test.link(next(test.devices), next(test.devices));
        }
        while (test.hasLeft(2 * DEAREST)) {
            test.anyCall();
        }
        test.allStates();
    }

    public static void main(String[] args) {
        eachActOfEachKind();
        eachByteOfEachKind();
        for (int i = 0; i < 1500; i++) {
            mixed(i, 1 + next(30), next(60));
        }
        for (int i = 0; i < 100; i++) {
            full(i, 303, 100);
            full(100 + i, 30, 403);
        }
        Due.end("AgainstJavaTest");
    }
}
