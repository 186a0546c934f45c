/** Promise 7: pass(d, x) sends a pulse through the links. */
public final class Promise07PassTest {
    /** The answers of the first go on before those of the second: PUMP 0 to METER 1 and VALVE 2, and on from these. */
    private static void roundTheHouse() {
        LineOfHeirs house = new LineOfHeirs();
        house.device(0, 10);
        house.device(2, 1);
        house.device(1, 0);
        int[][] links = {{0, 1}, {0, 2}, {1, 2}, {2, 0}, {1, 1}, {0, 1}};
        for (int[] link : links) {
            house.link(link[0], link[1]);
        }
        Due.is("pass(0, 5)", house, house.pass(0, 5), 3, 0);
        Due.chain("pass(0, 5)", house, 10, 100, 120, 70, 111, 20, 62, 62);
        Due.is("state(2, 1): took 16, not 70", house.state(2, 1), 513);
        Due.is("pass(1, 0)", house, house.pass(1, 0), 3, 0);
        Due.chain("pass(1, 0)", house, 120, 70, 111, 20, 62, 62, 10, 100);
        Due.is("state(2, 1): took 43", house.state(2, 1), (513 * 31 + 43) * 31 + 44);
        for (int d = 0; d < 3; d++) {
            Due.is("state(" + d + ", 5)", house.state(d, 5), 2);
        }
    }

    /** Links are gone through in the order in which they were made, whatever the devices' numbers. */
    private static void orderOfLinks() {
        LineOfHeirs house = new LineOfHeirs();
        for (int kind : new int[] {2, 0, 1, 6, 3}) {
            house.device(kind, 0);
        }
        int[][] links = {{2, 4}, {0, 3}, {0, 2}, {0, 1}, {3, 1}};
        for (int[] link : links) {
            house.link(link[0], link[1]);
        }
        Due.is("pass(0, 0)", house, house.pass(0, 0), 5, 0);
        Due.chain("pass(0, 0)", house, 120, 70, 40, 160, 111, 20, 62, 62, 10, 100, 131, 10, 130, 100);
        Due.is("pass(3, 1)", house, house.pass(3, 1), 2, 0);
        Due.chain("pass(3, 1)", house, 40, 160, 10, 100);
        int[] taken = {1, 2, 1, 2, 1};
        for (int d = 0; d < 5; d++) {
            Due.is("state(" + d + ", 5)", house.state(d, 5), taken[d]);
        }
    }

    private static void takesOfKinds() {
        int[] answersOfTake = {10, 111, 120, 131, 111, 152, 40, 120, 131, 111, 111};
        for (int kind = 0; kind < 11; kind++) {
            LineOfHeirs house = new LineOfHeirs();
            house.device(kind, 3);
            Due.is("kind " + kind + ": pass(0, 2)", house, house.pass(0, 2), 1, 0);
            Due.is("kind " + kind + ": chain(0)", house.chain(0), answersOfTake[kind]);
        }
    }

    private static void longLine() {
        LineOfHeirs house = new LineOfHeirs();
        for (int d = 0; d < 200; d++) {
            house.device(0, 0);
        }
        for (int d = 0; d < 199; d++) {
            house.link(d, d + 1);
        }
        Due.is("pass(0, 0)", house, house.pass(0, 0), 200, 0);
        Due.is("ran()", house.ran(), 400);
        Due.is("pass(150, 0)", house, house.pass(150, 0), 50, 0);
        Due.is("state(199, 5)", house.state(199, 5), 2);
        Due.is("state(149, 5)", house.state(149, 5), 1);
    }

    private static LineOfHeirs linked(int[] kinds, int[] values, int[]... links) {
        LineOfHeirs house = new LineOfHeirs();
        for (int d = 0; d < kinds.length; d++) {
            house.device(kinds[d], values[d]);
        }
        for (int[] link : links) {
            house.link(link[0], link[1]);
        }
        return house;
    }

    private static void took(LineOfHeirs house, int... times) {
        for (int d = 0; d < times.length; d++) {
            Due.is("state(" + d + ", 5)", house.state(d, 5), times[d]);
        }
    }

    /** Without a link, or with links to it or between others alone, the first takes alone. */
    private static void noLinkFromTheFirst() {
        LineOfHeirs house = linked(new int[] {0, 2, 1}, new int[3], new int[] {1, 0}, new int[] {1, 2});
        Due.is("pass(0, 1)", house, house.pass(0, 1), 1, 0);
        Due.chain("pass(0, 1)", house, 10, 100);
        Due.is("pass(2, 1)", house, house.pass(2, 1), 1, 0);
        Due.chain("pass(2, 1)", house, 111, 20, 62, 62);
        took(house, 1, 0, 1);
    }

    /** "one to a device that has not taken in this pulse": not to itself, not back, and not a second time. */
    private static void onlyOnceInAPulse() {
        LineOfHeirs house = linked(new int[] {0, 2}, new int[2], new int[] {0, 0}, new int[] {0, 1}, new int[] {0, 1},
            new int[] {0, 0}, new int[] {1, 0}, new int[] {1, 1});
        for (int pulse = 1; pulse <= 3; pulse++) {
            Due.is("pulse " + pulse + ": pass(0, 1)", house, house.pass(0, 1), 2, 0);
            Due.chain("pulse " + pulse, house, 10, 100, 120, 70);
            took(house, pulse, pulse);
        }
        Due.is("pass(1, 1)", house, house.pass(1, 1), 2, 0);
        Due.chain("pass(1, 1)", house, 120, 70, 10, 100);
    }

    /** Each lets take what itself answered: 5 becomes 16, 16 becomes 37, and the VALVE puts 37. */
    private static void whatEachAnsweredGoesOn() {
        LineOfHeirs house = linked(new int[] {0, 0, 1}, new int[] {10, 20, 0}, new int[] {0, 1}, new int[] {1, 2});
        Due.is("pass(0, 5)", house, house.pass(0, 5), 3, 0);
        Due.is("state(2, 1)", house.state(2, 1), 37 * 31 + 38);
    }

    /** Of two that link to one, the one that took first lets it take, though its number is the higher one. */
    private static void theOneThatTookFirst() {
        LineOfHeirs house = linked(new int[] {0, 0, 0, 1}, new int[] {0, 100, 200, 0}, new int[] {1, 3},
            new int[] {2, 3}, new int[] {0, 2}, new int[] {0, 1});
        Due.is("pass(0, 0)", house, house.pass(0, 0), 4, 0);
        Due.is("state(3, 1)", house.state(3, 1), 202 * 31 + 203);
    }

    private static void wraps() {
        LineOfHeirs house = linked(new int[] {0, 1}, new int[] {Integer.MAX_VALUE, 0}, new int[] {0, 1});
        Due.is("pass(0, 0)", house, house.pass(0, 0), 2, 0);
        Due.is("state(1, 1): MIN, then MIN * 31 + MIN + 1", house.state(1, 1), 1);
    }

    /** From one to all others, with as many as the 512 calls leave room for. */
    private static void oneToAll() {
        LineOfHeirs house = new LineOfHeirs();
        for (int d = 0; d < 250; d++) {
            house.device(2, d);
        }
        for (int d = 249; d > 0; d--) {
            house.link(0, d);
        }
        Due.is("pass(0, 1)", house, house.pass(0, 1), 250, 0);
        Due.is("ran()", house.ran(), 500);
        Due.is("state(1, 5)", house.state(1, 5), 1);
        Due.is("state(249, 5)", house.state(249, 5), 1);
        Due.is("pass(249, 1)", house, house.pass(249, 1), 1, 0);
        Due.is("state(249, 5)", house.state(249, 5), 2);
    }

    /** All 400 links there can be: each of 20 to each. */
    private static void allLinks() {
        LineOfHeirs house = new LineOfHeirs();
        for (int d = 0; d < 20; d++) {
            house.device(0, 0);
        }
        for (int i = 0; i < 400; i++) {
            house.link(i / 20, i % 20);
        }
        for (int d = 0; d < 20; d++) {
            Due.is("pass(" + d + ", 0)", house, house.pass(d, 0), 20, 0);
            Due.is("ran()", house.ran(), 40);
        }
        took(house, 20, 20);
        Due.is("state(19, 5)", house.state(19, 5), 20);
    }

    private static void wrong() {
        LineOfHeirs house = new LineOfHeirs();
        house.device(1, 0);
        house.link(0, 0);
        Due.is("pass(0, 1)", house, house.pass(0, 1), 1, 0);
        for (int d : new int[] {-1, 1, 300, Integer.MIN_VALUE, Integer.MAX_VALUE}) {
            Due.is("pass(" + d + ", 1)", house, house.pass(d, 1), 0, 1);
            Due.chain("pass(" + d + ", 1)", house, 111, 20, 62, 62);
        }
        Due.is("state(0, 5)", house.state(0, 5), 1);
        Due.is("state(0, 1)", house.state(0, 1), 33);
    }

    public static void main(String[] args) {
        roundTheHouse();
        orderOfLinks();
        takesOfKinds();
        longLine();
        noLinkFromTheFirst();
        onlyOnceInAPulse();
        whatEachAnsweredGoesOn();
        theOneThatTookFirst();
        wraps();
        oneToAll();
        allLinks();
        wrong();
        Due.end("Promise07PassTest");
    }
}
