/** Promise 13: status() tells the status of the latest call that has one. */
public final class Promise13StatusTest {
    private static LineOfHeirs house;

    /** Looks of all kinds leave the status as it is. */
    private static void stays(String after, int want) {
        house.able(-1, 0);
        house.able(0, 0);
        house.chain(-1);
        house.chain(0);
        house.ran();
        house.size(-1);
        house.size(0);
        Due.is("status() after " + after, house.status(), want);
        Due.is("status() again after " + after, house.status(), want);
    }

    private static void eachCallSetsIt() {
        house = new LineOfHeirs();
        stays("nothing", 0);
        house.device(11, 0);
        stays("device(11, 0)", 1);
        house.device(0, 0);
        stays("device(0, 0)", 0);
        house.call(0, 0, 3, 0);
        stays("call(0, 0, 3, 0)", 2);
        house.call(0, 0, 0, 0);
        stays("call(0, 0, 0, 0)", 0);
        house.call(0, 0, 1, 0);
        stays("call(0, 0, 1, 0)", 3);
        house.every(0, 0, 0);
        stays("every(0, 0, 0)", 0);
        house.every(0, 1, 0);
        stays("every(0, 1, 0)", 3);
        house.feed(0, 0x70707070);
        stays("feed(0, ..)", 0);
        house.feed(1, 0);
        stays("feed(1, ..)", 1);
        house.link(0, 0);
        stays("link(0, 0)", 0);
        house.link(0, 1);
        stays("link(0, 1)", 1);
        house.pass(0, 0);
        stays("pass(0, 0)", 0);
        house.pass(1, 0);
        stays("pass(1, 0)", 1);
        house.state(0, 0);
        stays("state(0, 0)", 0);
        house.state(0, 6);
        stays("state(0, 6)", 1);
        house.every(0, 2, 0);
        stays("every(0, 2, 0)", 0);
    }

    private static void noRoomAndThenRoom() {
        house = new LineOfHeirs();
        for (int d = 0; d < 301; d++) {
            house.device(0, 0);
        }
        stays("device 301", 5);
        house.link(0, 1);
        stays("link(0, 1)", 0);
        house.device(-1, 0);
        stays("device(-1, 0)", 1);
    }

    public static void main(String[] args) {
        eachCallSetsIt();
        noRoomAndThenRoom();
        Due.end("Promise13StatusTest");
    }
}
