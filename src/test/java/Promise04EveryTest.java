/** Promise 4: every(act, way, x) asks each device that bears the way. */
public final class Promise04EveryTest {
    private static final int READ = 0, PEEK = 1, WRITE = 3, PUT = 4, COUNT = 5;
    private static final int ADD = 6, LOG = 8, TURN = 9;

    private static LineOfHeirs three() {
        LineOfHeirs house = new LineOfHeirs();
        house.device(0, 1);
        house.device(1, 2);
        house.device(2, 3);
        return house;
    }

    private static void together() {
        LineOfHeirs house = three();
        Due.is("every(9, 1, 5)", house, house.every(TURN, 1, 5), 24, 0);
        Due.chain("every(9, 1, 5)", house, 101, 60, 60, 60);
        Due.is("every(3, 3, 0)", house, house.every(WRITE, 3, 0), 217, 0);
        Due.chain("every(3, 3, 0)", house, 62);
        Due.is("every(0, 0, 1)", house, house.every(READ, 0, 1), 9, 0);
        Due.chain("every(0, 0, 1)", house, 100);
        Due.is("every(5, 0, 1)", house, house.every(COUNT, 0, 1), 24, 0);
        Due.chain("every(5, 0, 1)", house, 70, 70, 70);
        Due.is("every(6, 5, 1)", house, house.every(ADD, 5, 1), 53, 0);
        Due.chain("every(6, 5, 1)", house, 120, 70);
    }

    private static void noneHasIt() {
        LineOfHeirs house = three();
        house.every(TURN, 1, 5);
        Due.is("every(8, 0, 5)", house, house.every(LOG, 0, 5), 0, 0);
        Due.chain("every(8, 0, 5)", house);
        house.every(TURN, 1, 5);
        Due.is("every(8, 6, 5)", house, house.every(LOG, 6, 5), 0, 0);
        Due.chain("every(8, 6, 5)", house);
        Due.is("state(1, 1)", house.state(1, 1), 12);
    }

    private static void wraps() {
        LineOfHeirs house = new LineOfHeirs();
        house.device(0, Integer.MAX_VALUE);
        Due.is("every(0, 2, 0) of one", house, house.every(READ, 2, 0), Integer.MAX_VALUE, 0);
        house.device(0, 1);
        Due.is("every(0, 2, 0) of two", house, house.every(READ, 2, 0), Integer.MIN_VALUE, 0);
        house.device(0, -1);
        Due.is("every(0, 2, 0) of three", house, house.every(READ, 2, 0), Integer.MAX_VALUE, 0);
        house.device(0, Integer.MAX_VALUE);
        Due.is("every(0, 2, 0) of four", house, house.every(READ, 2, 0), -2, 0);
    }

    /** All 300 there can be, by a way that all bear, by one that every third bears, and by one that none bears. */
    private static void ofAFullHouse() {
        LineOfHeirs house = new LineOfHeirs();
        for (int d = 0; d < 300; d++) {
            house.device(d % 3, d);
        }
        Due.is("every(5, 1, 2) of 300", house, house.every(COUNT, 1, 2), 300 * 9, 0);
        Due.is("ran()", house.ran(), 300);
        Due.is("every(0, 2, 0) of 100", house, house.every(READ, 2, 0), 3 * 99 * 100 / 2, 0);
        Due.is("ran()", house.ran(), 100);
        Due.is("every(5, 6, 2) of none", house, house.every(COUNT, 6, 2), 0, 0);
        Due.is("ran()", house.ran(), 0);
        Due.is("state(0, 2)", house.state(0, 2), 1);
        Due.is("state(299, 2)", house.state(299, 2), 1);
    }

    /** "No devices": each way's acts are done, on none. */
    private static void ofAnEmptyHouse() {
        String[] has = {"111111111111", "000101000111", "111000000000", "001110000000", "111110000000",
            "000001110000", "000001111000"};
        for (int way = 0; way < 7; way++) {
            LineOfHeirs house = new LineOfHeirs();
            for (int act = 0; act < 12; act++) {
                String what = "every(" + act + ", " + way + ", 1) without devices";
                Due.is(what, house, house.every(act, way, 1), 0, has[way].charAt(act) == '1' ? 0 : 3);
                Due.chain(what, house);
            }
            Due.is("every(-1, " + way + ", 1)", house, house.every(-1, way, 1), 0, 1);
            Due.is("every(12, " + way + ", 1)", house, house.every(12, way, 1), 0, 1);
        }
    }

    private static void eachKind(int act, int way, int want, int... bodies) {
        LineOfHeirs house = new LineOfHeirs();
        for (int kind = 0; kind < 11; kind++) {
            house.device(kind, 0);
        }
        String what = "each kind: every(" + act + ", " + way + ", 1)";
        Due.is(what, house, house.every(act, way, 1), want, 0);
        Due.chain(what, house, bodies);
    }

    /** "way 0: of each whose KIND has the act": the same ones as by the way of an interface that brings the act. */
    private static void ofEachKind() {
        for (int way : new int[] {0, 2}) {
            eachKind(PEEK, way, 22, 10, 100, 131, 10, 130, 100, 10, 140, 10, 150, 70, 131, 10, 130, 100,
                10, 190, 110, 61, 112, 10, 140);
        }
        for (int way : new int[] {0, 3}) {
            eachKind(PUT, way, 167, 111, 20, 62, 62, 111, 20, 62, 62, 152, 20, 62, 62, 111, 20, 62, 62, 111, 20, 62, 62);
        }
        for (int way : new int[] {0, 5}) {
            eachKind(ADD, way, 84, 120, 70, 120, 70, 40, 160, 120, 70, 40, 204, 70);
        }
        for (int way : new int[] {0, 6}) {
            eachKind(LOG, way, 125, 161, 51, 52, 160, 160, 51, 52, 70, 70, 51, 52, 204, 70, 204, 70);
        }
        for (int way : new int[] {0, 1}) {
            eachKind(COUNT, way, 82, 70, 70, 70, 70, 70, 70, 160, 70, 70, 70, 204, 70);
        }
        eachKind(PUT, 4, 101, 152, 20, 62, 62, 111, 20, 62, 62, 111, 20, 62, 62);
        eachKind(COUNT, 6, 18, 160, 70, 204, 70);
    }

    private static void refused() {
        LineOfHeirs house = three();
        house.every(TURN, 1, 5);
        int[][] calls = {
            {-1, 0, 1}, {12, 0, 1}, {Integer.MIN_VALUE, 1, 1}, {Integer.MAX_VALUE, 1, 1},
            {TURN, -1, 1}, {TURN, 7, 1}, {TURN, Integer.MIN_VALUE, 1}, {TURN, Integer.MAX_VALUE, 1}, {LOG, 7, 1},
            {READ, 1, 3}, {READ, 3, 3}, {WRITE, 2, 3}, {TURN, 4, 3}, {LOG, 5, 3}, {WRITE, 6, 3}
        };
        for (int[] c : calls) {
            String what = "every(" + c[0] + ", " + c[1] + ", 5)";
            Due.is(what, house, house.every(c[0], c[1], 5), 0, c[2]);
            Due.chain(what, house, 101, 60, 60, 60);
        }
        Due.is("state(0, 1)", house.state(0, 1), 8);
        LineOfHeirs empty = new LineOfHeirs();
        Due.is("every(0, 1, 0) of none", empty, empty.every(READ, 1, 0), 0, 3);
        Due.is("every(0, 2, 0) of none", empty, empty.every(READ, 2, 0), 0, 0);
    }

    public static void main(String[] args) {
        together();
        noneHasIt();
        wraps();
        ofAFullHouse();
        ofAnEmptyHouse();
        ofEachKind();
        refused();
        Due.end("Promise04EveryTest");
    }
}
