/** Promise 11: state(d, what) tells the facts of a device. */
public final class Promise11StateTest {
    private static void facts(LineOfHeirs house, int d, int... want) {
        for (int what = 0; what < want.length; what++) {
            Due.is("state(" + d + ", " + what + ")", house, house.state(d, what), want[what], 0);
        }
    }

    private static void wrong(LineOfHeirs house, int d, int what) {
        house.call(0, 3, 1, 0);
        Due.is("state(" + d + ", " + what + ")", house, house.state(d, what), 0, 1);
    }

    public static void main(String[] args) {
        LineOfHeirs house = new LineOfHeirs();
        house.device(4, -9);
        house.device(10, 50);
        facts(house, 0, 4, -9, 0, 0, 0, 0);
        facts(house, 1, 10, 50, 0, 0, 0, 0);
        house.link(0, 1);
        house.link(0, 0);
        house.link(0, 1);
        facts(house, 0, 4, -9, 0, 3, 1, 0);
        facts(house, 1, 10, 50, 0, 0, 2, 0);
        house.call(1, 7, 5, 1);
        house.call(0, 9, 1, 4);
        facts(house, 0, 4, -5, 0, 3, 1, 0);
        facts(house, 1, 10, 50, 4, 0, 2, 0);
        house.pass(1, 1);
        house.pass(1, 1);
        house.pass(0, 1);
        Due.is("state(0, 5)", house.state(0, 5), 1);
        Due.is("state(1, 5)", house.state(1, 5), 3);
        Due.is("call does not take", house.call(0, 4, 3, 1) == 0 ? 0 : house.state(0, 5), 1);
        for (int d : new int[] {-1, 2, 299, 300, Integer.MIN_VALUE, Integer.MAX_VALUE}) {
            wrong(house, d, 0);
        }
        for (int what : new int[] {-1, 6, 7, Integer.MIN_VALUE, Integer.MAX_VALUE}) {
            wrong(house, 0, what);
        }
        Due.end("Promise11StateTest");
    }
}
