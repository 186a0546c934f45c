/** Promise 10: ran() counts all bodies of the chain, beyond the 64 too. */
public final class Promise10RanTest {
    private static LineOfHeirs ledgers(int devices) {
        LineOfHeirs house = new LineOfHeirs();
        for (int d = 0; d < devices; d++) {
            house.device(10, d);
        }
        return house;
    }

    private static void none() {
        LineOfHeirs house = new LineOfHeirs();
        Due.is("ran() of a new one", house.ran(), 0);
        house.device(10, 1);
        Due.is("ran() after device()", house.ran(), 0);
        house.link(0, 0);
        Due.is("ran() after link()", house.ran(), 0);
        house.call(0, 12, 0, 1);
        Due.is("ran() after a refused call()", house.ran(), 0);
        house.feed(0, 0x70707070);
        Due.is("ran() after four that were left out", house.ran(), 0);
    }

    /** As many as one call can let run: 300 devices of 21 bodies. */
    private static void asManyAsThereCanBe() {
        LineOfHeirs house = ledgers(300);
        house.every(2, 0, 1);
        Due.is("ran() after 300 glances", house.ran(), 300 * 21);
        house.every(7, 6, 1);
        Due.is("ran() after 300 tallies", house.ran(), 300 * 16);
        house.every(3, 1, 1);
        Due.is("ran() after 300 writes", house.ran(), 300);
    }

    private static void aroundThe64() {
        for (int bodies : new int[] {1, 63, 64, 65}) {
            LineOfHeirs house = ledgers(bodies);
            house.every(3, 1, 1);
            Due.is("ran() after " + bodies + " writes", house.ran(), bodies);
        }
    }

    private static void theLatestThatWasDone() {
        LineOfHeirs house = ledgers(3);
        house.every(3, 1, 1);
        house.link(0, 1);
        house.state(0, 1);
        house.call(0, 12, 0, 1);
        house.every(8, 1, 1);
        house.feed(-1, 0);
        house.pass(300, 0);
        Due.is("ran() after calls that are not of the chain, or were refused", house.ran(), 3);
        house.pass(0, 1);
        Due.is("ran() after a pulse of two", house.ran(), 8);
        house.feed(0, 0x03030303);
        Due.is("ran() after four writes", house.ran(), 4);
        house.feed(0, 0x70707070);
        Due.is("ran() after four that were left out", house.ran(), 0);
        house.call(0, 3, 1, 1);
        Due.is("ran() after a write", house.ran(), 1);
    }

    public static void main(String[] args) {
        none();
        asManyAsThereCanBe();
        aroundThe64();
        theLatestThatWasDone();
        Due.end("Promise10RanTest");
    }
}
