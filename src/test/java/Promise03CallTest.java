/** Promise 3: call(d, act, way, x) runs the bodies that the device's kind selects. The numbers are worked out by hand. */
public final class Promise03CallTest {
    private static final int READ = 0, PEEK = 1, GLANCE = 2, WRITE = 3, PUT = 4, COUNT = 5;
    private static final int ADD = 6, TALLY = 7, LOG = 8, TURN = 9, REST = 10, SUM = 11;
    private static final int PUMP = 0, VALVE = 1, METER = 2, FINE = 3, RELAY = 4, TWIN = 5;
    private static final int MUTE = 6, GAUGE = 7, BOOST = 8, SIPHON = 9, LEDGER = 10;

    /** One act of a new device, by each of the ways: the answer and the bodies are the same for all. */
    private static void one(int kind, int v, int act, int x, int[] ways, int want, int... bodies) {
        for (int way : ways) {
            LineOfHeirs house = new LineOfHeirs();
            house.device(kind, v);
            String what = "kind " + kind + " of " + v + ": call(0, " + act + ", " + way + ", " + x + ")";
            Due.is(what, house, house.call(0, act, way, x), want, 0);
            Due.chain(what, house, bodies);
        }
    }

    private static int[] ways(int... ways) {
        return ways;
    }

    private static void pumps() {
        one(PUMP, 7, READ, 5, ways(0, 2), 12, 100);
        one(PUMP, 7, PEEK, 5, ways(0, 2), 13, 10, 100);
        one(PUMP, 7, GLANCE, 2, ways(0, 2), 20, 11, 10, 100, 100);
        one(PUMP, 7, TURN, 9, ways(0, 1), 19, 101, 60);
        one(FINE, 7, READ, 0, ways(0, 2), 21, 130, 100);
        one(FINE, 1, PEEK, 1, ways(0, 2), 15, 131, 10, 130, 100);
        one(BOOST, 10, PEEK, 1, ways(0, 2), 42, 131, 10, 130, 100);
        one(BOOST, 0, TURN, 1, ways(0, 1), 3, 180, 101, 60);
        one(BOOST, 0, GLANCE, 1, ways(0, 2), 45, 181, 11, 131, 10, 130, 100, 130, 100, 131, 10, 130, 100);
    }

    private static void valves() {
        one(VALVE, 2, WRITE, 5, ways(0, 1, 3), 67, 62);
        one(VALVE, 1, PUT, 0, ways(0, 3), 992, 111, 20, 62, 62);
        one(VALVE, 1, GLANCE, 0, ways(0, 3), 949, 21, 111, 20, 62, 62);
        one(VALVE, 10, REST, 1, ways(0, 1), 13, 110, 61, 112);
        one(RELAY, 10, REST, 1, ways(0, 1), 10, 142, 110, 61, 112);
        one(RELAY, 10, SUM, 1, ways(0, 1), 27, 64, 60, 142, 110, 61, 112, 63);
        one(RELAY, 10, READ, 3, ways(0, 2), 7, 140);
        one(RELAY, 1, GLANCE, 0, ways(0, 2, 3), -977, 141, 21, 111, 20, 62, 62, 11, 10, 140, 140);
        one(SIPHON, 10, READ, 2, ways(0, 2, 4), 12, 190, 110, 61, 112);
        one(SIPHON, 1, PUT, 0, ways(0, 3, 4), 992, 111, 20, 62, 62);
    }

    private static void meters() {
        one(METER, 100, COUNT, 3, ways(0, 1, 5), 10, 70);
        one(METER, 100, ADD, 3, ways(0, 5), 130, 120, 70);
        one(METER, 0, TALLY, 1, ways(0, 5), 93, 41, 120, 70, 120, 70);
        one(GAUGE, 0, LOG, 1, ways(0, 6), 56, 51, 52, 70, 70);
        one(GAUGE, 100, TALLY, 1, ways(0, 5, 6), 253, 50, 41, 120, 70, 120, 70, 51, 52, 70, 70);
        one(TWIN, 1, TURN, 4, ways(0, 1), 5100, 151, 60, 30, 11, 10, 150, 70, 150, 70, 21, 152, 20, 62, 62);
        one(TWIN, 5, READ, 0, ways(0, 2, 4), 12, 150, 70);
        one(TWIN, 5, PUT, 1, ways(0, 3, 4), 4995, 152, 20, 62, 62);
        one(TWIN, 5, GLANCE, 0, ways(0, 2, 3, 4), 5097, 30, 11, 10, 150, 70, 150, 70, 21, 152, 20, 62, 62);
    }

    private static void mutes() {
        one(MUTE, 5, COUNT, 3, ways(0, 1, 5, 6), 3, 160);
        one(MUTE, 5, TURN, 3, ways(0, 1), 108, 163, 162, 60);
        one(MUTE, 5, ADD, 3, ways(0, 5, 6), 6, 40, 160);
        one(MUTE, 5, LOG, 4, ways(0, 6), 22, 161, 51, 52, 160, 160);
        one(MUTE, 5, TALLY, 300, ways(0, 5, 6), 980, 50, 41, 40, 160, 40, 160, 161, 51, 52, 160, 160);
        one(MUTE, 6, SUM, 3, ways(0, 1), 120, 64, 163, 162, 60, 61, 63);
    }

    private static void ledgers() {
        one(LEDGER, 0, COUNT, 2, ways(0, 1, 5, 6), 10, 204, 70);
        one(LEDGER, 0, TALLY, 2, ways(0, 5, 6), -104,
            201, 50, 41, 40, 204, 70, 40, 204, 70, 51, 52, 204, 70, 204, 70, 200);
        one(LEDGER, 0, GLANCE, 0, ways(0, 2, 3, 4), -30617,
            202, 30, 11, 10, 140, 140, 21, 111, 20, 62, 62, 141, 21, 111, 20, 62, 62, 11, 10, 140, 140);
        one(LEDGER, 0, LOG, 2, ways(0, 6), 67, 51, 52, 204, 70, 204, 70);
    }

    /** The selected body of each act of each kind; 0 where the kind does not have the act. */
    private static void selected() {
        int[][] bodies = {
            {100, 10, 11, 62, 0, 70, 0, 0, 0, 101, 61, 64},
            {0, 0, 21, 62, 111, 70, 0, 0, 0, 60, 110, 64},
            {0, 0, 0, 62, 0, 70, 120, 41, 0, 60, 61, 64},
            {130, 131, 11, 62, 0, 70, 0, 0, 0, 101, 61, 64},
            {140, 10, 141, 62, 111, 70, 0, 0, 0, 60, 142, 64},
            {150, 10, 30, 62, 152, 70, 120, 41, 0, 151, 61, 64},
            {0, 0, 0, 62, 0, 160, 40, 50, 161, 163, 61, 64},
            {0, 0, 0, 62, 0, 70, 120, 50, 51, 60, 61, 64},
            {130, 131, 181, 62, 0, 70, 0, 0, 0, 180, 61, 64},
            {190, 10, 30, 62, 111, 70, 0, 0, 0, 60, 110, 64},
            {140, 10, 202, 62, 111, 204, 40, 201, 51, 60, 142, 64}
        };
        for (int kind = 0; kind < bodies.length; kind++) {
            for (int act = 0; act < 12; act++) {
                LineOfHeirs house = new LineOfHeirs();
                house.device(kind, 5);
                int body = bodies[kind][act];
                house.call(0, act, 0, 1);
                String what = "kind " + kind + ": call(0, " + act + ", 0, 1)";
                Due.is("status() after " + what, house.status(), body == 0 ? 3 : 0);
                Due.is("chain(0) after " + what, house.chain(0), body == 0 ? LineOfHeirs.NONE : body);
            }
        }
    }

    /** TermsNumbersTest has the other bodies. */
    private static void wraps() {
        one(PUMP, Integer.MAX_VALUE, READ, 1, ways(0, 2), Integer.MIN_VALUE, 100);
        one(VALVE, 1 << 30, WRITE, 0, ways(0, 1, 3), -(1 << 30), 62);
        one(METER, Integer.MIN_VALUE, REST, 1, ways(0, 1), Integer.MAX_VALUE - 2, 61);
        one(MUTE, 0, REST, Integer.MIN_VALUE, ways(0, 1), Integer.MIN_VALUE, 61);
    }

    /** The first and the last number there is of a device, an act and a way, and those just outside. */
    private static void firstAndLastNumbers() {
        LineOfHeirs house = new LineOfHeirs();
        for (int d = 0; d < 300; d++) {
            house.device(LEDGER, d);
        }
        Due.is("the first device", house, house.call(0, READ, 0, -1), 1, 0);
        Due.is("the last device", house, house.call(299, READ, 0, -1), 300, 0);
        Due.is("before the first device", house, house.call(-1, READ, 0, -1), 0, 1);
        Due.is("behind the last device", house, house.call(300, READ, 0, -1), 0, 1);
        Due.is("the last act", house, house.call(0, SUM, 0, 0), 0 - 10 - 6, 0);
        Due.is("behind the last act", house, house.call(0, SUM + 1, 0, 0), 0, 1);
        Due.is("before the first act", house, house.call(0, READ - 1, 0, 0), 0, 1);
        Due.is("the last way", house, house.call(0, COUNT, 6, 0), 8, 0);
        Due.is("behind the last way", house, house.call(0, COUNT, 7, 0), 0, 1);
        Due.is("before the first way", house, house.call(0, COUNT, -1, 0), 0, 1);
    }

    private static void withoutDevices() {
        LineOfHeirs house = new LineOfHeirs();
        for (int way = 0; way < 7; way++) {
            Due.is("call(0, 5, " + way + ", 1) without devices", house, house.call(0, COUNT, way, 1), 0, 1);
        }
        Due.chain("calls without devices", house);
    }

    private static void refused() {
        LineOfHeirs house = new LineOfHeirs();
        house.device(PUMP, 7);
        Due.is("call(0, 9, 0, 9)", house, house.call(0, TURN, 0, 9), 19, 0);
        int[][] calls = {
            {-1, READ, 0, 1}, {1, READ, 0, 1}, {Integer.MAX_VALUE, READ, 0, 1}, {Integer.MIN_VALUE, READ, 0, 1},
            {0, -1, 0, 1}, {0, 12, 0, 1}, {0, Integer.MIN_VALUE, 0, 1}, {0, Integer.MAX_VALUE, 0, 1},
            {0, READ, -1, 1}, {0, READ, 7, 1}, {0, READ, Integer.MIN_VALUE, 1}, {0, READ, Integer.MAX_VALUE, 1},
            {0, 12, 3, 1}, {1, PUT, 3, 1},
            {0, WRITE, 3, 2}, {0, COUNT, 5, 2}, {0, READ, 3, 2}, {0, SUM, 4, 2}, {0, LOG, 6, 2},
            {0, PUT, 0, 3}, {0, LOG, 0, 3}, {0, ADD, 0, 3}, {0, READ, 1, 3}, {0, TURN, 2, 3}, {0, WRITE, 2, 3}
        };
        for (int[] c : calls) {
            String what = "call(" + c[0] + ", " + c[1] + ", " + c[2] + ", 4)";
            Due.is(what, house, house.call(c[0], c[1], c[2], 4), 0, c[3]);
            Due.chain(what, house, 101, 60);
        }
        Due.is("state(0, 1)", house.state(0, 1), 18);
        Due.is("state(0, 2)", house.state(0, 2), 0);
    }

    /** Which acts each way has: a kind that bears all, and the status of each act. */
    private static void actsOfWays() {
        LineOfHeirs house = new LineOfHeirs();
        house.device(LEDGER, 3);
        String[] has = {"111111111111", "000101000111", "111000000000", "001110000000", "111110000000",
            "000001110000", "000001111000"};
        for (int way = 0; way < 7; way++) {
            for (int act = 0; act < 12; act++) {
                house.call(0, act, way, 1);
                Due.is("status() of act " + act + " by way " + way, house.status(), has[way].charAt(act) == '1' ? 0 : 3);
            }
        }
    }

    /** What the acts leave behind on the device. */
    private static void changes() {
        LineOfHeirs house = new LineOfHeirs();
        house.device(RELAY, 1);
        house.call(0, GLANCE, 2, 0);
        Due.is("state(0, 1) after glance", house.state(0, 1), 962);
        house.call(0, COUNT, 1, 0);
        Due.is("second count", house, house.call(0, COUNT, 1, 1), 15, 0);
        Due.is("state(0, 2) after counts", house.state(0, 2), 2);
        Due.is("rest with a count of 2", house, house.call(0, REST, 1, 320), -2 + 2 - 321 + 4, 0);
    }

    public static void main(String[] args) {
        pumps();
        valves();
        meters();
        mutes();
        ledgers();
        selected();
        wraps();
        firstAndLastNumbers();
        withoutDevices();
        refused();
        actsOfWays();
        changes();
        Due.end("Promise03CallTest");
    }
}
