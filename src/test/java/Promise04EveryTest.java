/** Promise 4: every(act, way, x) asks each device that bears the way. */
public final class Promise04EveryTest {
    private static final int READ = 0, WRITE = 3, COUNT = 5, ADD = 6, LOG = 8, TURN = 9;

    private static LineOfHeirs three() {
        LineOfHeirs house = new LineOfHeirs();
        house.device(0, 1);
        house.device(1, 2);
        house.device(2, 3);
        return house;
    }

    private static void together() {
        LineOfHeirs house = three();
        Due.is("every(9, 1, 5)", house, house.every(TURN, 1, 5), 24, 0);
        Due.chain("every(9, 1, 5)", house, 101, 60, 60, 60);
        Due.is("every(3, 3, 0)", house, house.every(WRITE, 3, 0), 217, 0);
        Due.chain("every(3, 3, 0)", house, 62);
        Due.is("every(0, 0, 1)", house, house.every(READ, 0, 1), 9, 0);
        Due.chain("every(0, 0, 1)", house, 100);
        Due.is("every(5, 0, 1)", house, house.every(COUNT, 0, 1), 24, 0);
        Due.chain("every(5, 0, 1)", house, 70, 70, 70);
        Due.is("every(6, 5, 1)", house, house.every(ADD, 5, 1), 53, 0);
        Due.chain("every(6, 5, 1)", house, 120, 70);
    }

    private static void noneHasIt() {
        LineOfHeirs house = three();
        house.every(TURN, 1, 5);
        Due.is("every(8, 0, 5)", house, house.every(LOG, 0, 5), 0, 0);
        Due.chain("every(8, 0, 5)", house);
        house.every(TURN, 1, 5);
        Due.is("every(8, 6, 5)", house, house.every(LOG, 6, 5), 0, 0);
        Due.chain("every(8, 6, 5)", house);
        Due.is("state(1, 1)", house.state(1, 1), 12);
    }

    private static void wraps() {
        LineOfHeirs house = new LineOfHeirs();
        house.device(0, Integer.MAX_VALUE);
        house.device(0, Integer.MAX_VALUE);
        Due.is("every(0, 2, 0)", house, house.every(READ, 2, 0), -2, 0);
    }

    private static void refused() {
        LineOfHeirs house = three();
        house.every(TURN, 1, 5);
        int[][] calls = {
            {-1, 0, 1}, {12, 0, 1}, {Integer.MIN_VALUE, 1, 1}, {Integer.MAX_VALUE, 1, 1},
            {TURN, -1, 1}, {TURN, 7, 1}, {TURN, Integer.MIN_VALUE, 1}, {TURN, Integer.MAX_VALUE, 1}, {LOG, 7, 1},
            {READ, 1, 3}, {READ, 3, 3}, {WRITE, 2, 3}, {TURN, 4, 3}, {LOG, 5, 3}, {WRITE, 6, 3}
        };
        for (int[] c : calls) {
            String what = "every(" + c[0] + ", " + c[1] + ", 5)";
            Due.is(what, house, house.every(c[0], c[1], 5), 0, c[2]);
            Due.chain(what, house, 101, 60, 60, 60);
        }
        Due.is("state(0, 1)", house.state(0, 1), 8);
        LineOfHeirs empty = new LineOfHeirs();
        Due.is("every(0, 1, 0) of none", empty, empty.every(READ, 1, 0), 0, 3);
        Due.is("every(0, 2, 0) of none", empty, empty.every(READ, 2, 0), 0, 0);
    }

    public static void main(String[] args) {
        together();
        noneHasIt();
        wraps();
        refused();
        Due.end("Promise04EveryTest");
    }
}
