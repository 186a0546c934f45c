/** Promise 9: chain(i) tells the bodies that ran, the first 64 of them. */
public final class Promise09ChainTest {
    private static void theFirst64() {
        LineOfHeirs house = new LineOfHeirs();
        for (int d = 0; d < 66; d++) {
            house.device(d == 63 ? 6 : 2, 0);
        }
        house.every(5, 1, 0);
        for (int i = 0; i < 63; i++) {
            Due.is("chain(" + i + ")", house.chain(i), 70);
        }
        Due.is("chain(63)", house.chain(63), 160);
        Due.is("chain(64)", house.chain(64), LineOfHeirs.NONE);
        Due.is("chain(65)", house.chain(65), LineOfHeirs.NONE);
        Due.is("chain(-1)", house.chain(-1), LineOfHeirs.NONE);
        Due.is("chain(MIN)", house.chain(Integer.MIN_VALUE), LineOfHeirs.NONE);
        Due.is("chain(MAX)", house.chain(Integer.MAX_VALUE), LineOfHeirs.NONE);
        Due.is("ran()", house.ran(), 66);
        house.call(63, 9, 1, 0);
        Due.chain("a shorter one", house, 163, 162, 60);
        Due.is("chain(5) of the shorter one", house.chain(5), LineOfHeirs.NONE);
    }

    private static void bodiesInTheOrderOfTheirBeginning() {
        LineOfHeirs house = new LineOfHeirs();
        Due.chain("nothing", house);
        house.device(8, 10);
        house.call(0, 1, 2, 1);
        Due.chain("peek", house, 131, 10, 130, 100);
        house.feed(0, 0x20190000);
        Due.chain("feed", house, 130, 100, 180, 101, 60, 130, 100, 130, 100);
        house.pass(0, 1);
        Due.chain("pass", house, 131, 10, 130, 100);
        house.every(0, 0, 1);
        Due.chain("every", house, 130, 100);
    }

    private static void itStays() {
        LineOfHeirs house = new LineOfHeirs();
        house.device(0, 1);
        house.call(0, 9, 1, 1);
        house.device(1, 1);
        house.link(0, 1);
        house.state(0, 1);
        house.able(0, 1);
        house.size(0);
        house.call(0, 3, 3, 1);
        house.every(0, 1, 1);
        house.feed(2, 1);
        house.pass(2, 1);
        Due.chain("calls that were not done", house, 101, 60);
    }

    public static void main(String[] args) {
        theFirst64();
        bodiesInTheOrderOfTheirBeginning();
        itStays();
        Due.end("Promise09ChainTest");
    }
}
