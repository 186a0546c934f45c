/** Promise 5: feed(d, bytes) makes four calls in a row, the highest byte first. */
public final class Promise05FeedTest {
    private static void one(int kind, int v, int bytes, int want, int... bodies) {
        LineOfHeirs house = new LineOfHeirs();
        house.device(kind, v);
        String what = "kind " + kind + " of " + v + ": feed(0, 0x" + Integer.toHexString(bytes) + ")";
        Due.is(what, house, house.feed(0, bytes), want, 0);
        Due.chain(what, house, bodies);
    }

    private static void refused() {
        LineOfHeirs house = new LineOfHeirs();
        house.device(0, 1);
        house.feed(0, 0x20A00019);
        for (int d : new int[] {-1, 1, 300, Integer.MIN_VALUE, Integer.MAX_VALUE}) {
            Due.is("feed(" + d + ", 0)", house, house.feed(d, 0), 0, 1);
            Due.chain("feed(" + d + ", 0)", house, 100, 100, 100, 101, 60);
        }
        Due.is("state(0, 1)", house.state(0, 1), 6);
        Due.is("feed(0, all left out)", house, house.feed(0, 0x0C703010), 0, 0);
        Due.chain("feed(0, all left out)", house);
    }

    public static void main(String[] args) {
        // read of 0: 1; read of -1: 0; read of 1 by the kind: 2; turn of 3: 7
        one(0, 1, 0x20A00019, 10, 100, 100, 100, 101, 60);
        // reads of 0 less 0, of 5, of 0 less 15, of 5
        one(0, 5, 0xA020A020, 5 + 10 - 10 + 10, 100, 100, 100, 100);
        // bit 7 alone: read by the kind
        one(0, 5, 0x80008000, 5 + 10 - 10 + 10, 100, 100, 100, 100);
        // act 12, way 7, a way not borne and an act that the way does not have: all are left out
        one(0, 5, 0x0C703010, 0);
        // one that is left out leaves the sum as it was
        one(0, 5, 0x200F2010, 15, 100, 100);
        one(0, 5, 0x0000007F, 5 + 10 + 20, 100, 100, 100);
        // write, by each way that has it
        one(1, 1, 0x03133343, 31 + (31 * 31 + 31) + (992 * 31 + 31 + 992), 62, 62, 62);
        // log by LOGGED; act 15 by way 7 with bit 7 is left out
        one(7, 0, 0x68FFFFFF, 7 * 5 + 16, 51, 52, 70, 70);
        refused();
        Due.end("Promise05FeedTest");
    }
}
