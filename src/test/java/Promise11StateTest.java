/** Promise 11: state(d, what) tells the facts of a device. */
public final class Promise11StateTest {
    private static void facts(LineOfHeirs house, int d, int... want) {
        for (int what = 0; what < want.length; what++) {
            Due.is("state(" + d + ", " + what + ")", house, house.state(d, what), want[what], 0);
        }
    }

    private static void wrong(LineOfHeirs house, int d, int what) {
        house.call(0, 3, 1, 0);
        Due.is("state(" + d + ", " + what + ")", house, house.state(d, what), 0, 1);
    }

    /** "how many LINKS go from it", "come to it", "how often it has TAKEN": at the most that 512 calls let be. */
    private static void theMost() {
        LineOfHeirs house = new LineOfHeirs();
        house.device(2, 1);
        house.device(0, 2);
        for (int i = 0; i < 400; i++) {
            house.link(0, 1);
        }
        facts(house, 0, 2, 1, 0, 400, 0, 0);
        facts(house, 1, 0, 2, 0, 0, 400, 0);
        for (int pulse = 0; pulse < 80; pulse++) {
            house.pass(0, 0);
        }
        Due.is("state(0, 2) of 80 pulses", house.state(0, 2), 80);
        Due.is("state(0, 5) of 80 pulses", house.state(0, 5), 80);
        Due.is("state(1, 5) of 80 pulses", house.state(1, 5), 80);
    }

    /** Only a pulse lets a device take: put, peek and add that are called do not. */
    private static void actsAreNoTaking() {
        LineOfHeirs house = new LineOfHeirs();
        house.device(10, 1);
        house.call(0, 4, 3, 1);
        house.call(0, 1, 2, 1);
        house.every(6, 5, 1);
        house.feed(0, 0x34343434);
        Due.is("state(0, 5) without a pulse", house.state(0, 5), 0);
        house.pass(1, 1);
        Due.is("state(0, 5) after a refused pulse", house.state(0, 5), 0);
        house.pass(0, 1);
        Due.is("state(0, 5) after a pulse", house.state(0, 5), 1);
    }

    /** The ends of what the VALUE can be, and of what there is to ask. */
    private static void theEnds() {
        LineOfHeirs house = new LineOfHeirs();
        house.device(0, Integer.MIN_VALUE);
        house.device(10, Integer.MAX_VALUE);
        facts(house, 0, 0, Integer.MIN_VALUE, 0, 0, 0, 0);
        facts(house, 1, 10, Integer.MAX_VALUE, 0, 0, 0, 0);
        house.every(9, 1, 0);
        facts(house, 0, 0, Integer.MIN_VALUE + 2, 0, 0, 0, 0);
        house.call(1, 9, 1, 1);
        facts(house, 1, 10, Integer.MIN_VALUE, 0, 0, 0, 0);
        Due.is("state(0, -1)", house, house.state(0, -1), 0, 1);
        Due.is("state(0, 6)", house, house.state(0, 6), 0, 1);
        Due.is("state(-1, 0)", house, house.state(-1, 0), 0, 1);
        Due.is("state(2, 0)", house, house.state(2, 0), 0, 1);
        LineOfHeirs empty = new LineOfHeirs();
        for (int what = 0; what < 6; what++) {
            Due.is("state(0, " + what + ") without devices", empty, empty.state(0, what), 0, 1);
        }
    }

    public static void main(String[] args) {
        theMost();
        actsAreNoTaking();
        theEnds();
        LineOfHeirs house = new LineOfHeirs();
        house.device(4, -9);
        house.device(10, 50);
        facts(house, 0, 4, -9, 0, 0, 0, 0);
        facts(house, 1, 10, 50, 0, 0, 0, 0);
        house.link(0, 1);
        house.link(0, 0);
        house.link(0, 1);
        facts(house, 0, 4, -9, 0, 3, 1, 0);
        facts(house, 1, 10, 50, 0, 0, 2, 0);
        house.call(1, 7, 5, 1);
        house.call(0, 9, 1, 4);
        facts(house, 0, 4, -5, 0, 3, 1, 0);
        facts(house, 1, 10, 50, 4, 0, 2, 0);
        house.pass(1, 1);
        house.pass(1, 1);
        house.pass(0, 1);
        Due.is("state(0, 5)", house.state(0, 5), 1);
        Due.is("state(1, 5)", house.state(1, 5), 3);
        Due.is("call does not take", house.call(0, 4, 3, 1) == 0 ? 0 : house.state(0, 5), 1);
        for (int d : new int[] {-1, 2, 299, 300, Integer.MIN_VALUE, Integer.MAX_VALUE}) {
            wrong(house, d, 0);
        }
        for (int what : new int[] {-1, 6, 7, Integer.MIN_VALUE, Integer.MAX_VALUE}) {
            wrong(house, 0, what);
        }
        Due.end("Promise11StateTest");
    }
}
