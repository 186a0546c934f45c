/** Promise 5: feed(d, bytes) makes four calls in a row, the highest byte first. */
public final class Promise05FeedTest {
    private static void one(int kind, int v, int bytes, int want, int... bodies) {
        LineOfHeirs house = new LineOfHeirs();
        house.device(kind, v);
        String what = "kind " + kind + " of " + v + ": feed(0, 0x" + Integer.toHexString(bytes) + ")";
        Due.is(what, house, house.feed(0, bytes), want, 0);
        Due.chain(what, house, bodies);
    }

    private static void refused() {
        LineOfHeirs house = new LineOfHeirs();
        house.device(0, 1);
        house.feed(0, 0x20A00019);
        for (int d : new int[] {-1, 1, 300, Integer.MIN_VALUE, Integer.MAX_VALUE}) {
            Due.is("feed(" + d + ", 0)", house, house.feed(d, 0), 0, 1);
            Due.chain("feed(" + d + ", 0)", house, 100, 100, 100, 101, 60);
        }
        Due.is("state(0, 1)", house.state(0, 1), 6);
        Due.is("feed(0, all left out)", house, house.feed(0, 0x0C703010), 0, 0);
        Due.chain("feed(0, all left out)", house);
    }

    /** "One that call() would not do is left out": each of the 256 bytes, where call() itself tells which. */
    private static void eachByte(int kind) {
        for (int half = 0; half < 256; half += 128) {
            LineOfHeirs fed = new LineOfHeirs();
            LineOfHeirs called = new LineOfHeirs();
            fed.device(kind, 5);
            called.device(kind, 5);
            for (int code = half; code < half + 128; code++) {
                String what = "kind " + kind + ": feed of byte " + code;
                int want = called.call(0, code & 15, code >> 4 & 7, 0);
                boolean done = called.status() == 0;
                // way 7, and act 15 by each way: never done
                int place = code % 4;
                int others = new int[] {0x00707F1F, 0x70007F0F, 0x7F6F007F, 0xFFFF7F00}[place];
                Due.is(what, fed.feed(0, code << 24 - 8 * place | others), want);
                Due.is(what + ": status()", fed.status(), 0);
                Due.is(what + ": ran()", fed.ran(), done ? called.ran() : 0);
            }
        }
    }

    /** All four are left out: it was done, none ran, and the device is as it was. */
    private static void allLeftOut() {
        for (int bytes : new int[] {-1, 0, Integer.MIN_VALUE, 0x80808080, 0x0F1F2F3F, 0x10111217, Integer.MAX_VALUE}) {
            LineOfHeirs house = new LineOfHeirs();
            house.device(1, 5);
            house.call(0, 3, 1, 0);
            String what = "feed(0, 0x" + Integer.toHexString(bytes) + ") of a VALVE";
            Due.is(what, house, house.feed(0, bytes), 0, 0);
            Due.chain(what, house);
            Due.is(what + ", then the VALUE", house.state(0, 1), 155);
        }
    }

    /** The sum wraps, and so does nothing less the lowest number. */
    private static void wraps() {
        one(0, 1 << 30, 0x20200F0F, Integer.MIN_VALUE + (1 << 30), 100, 100);
        one(0, 1 << 30, 0x20202020, -(1 << 30), 100, 100, 100, 100);
        one(0, Integer.MIN_VALUE, 0x20A00F0F, Integer.MIN_VALUE, 100, 100);
        one(0, Integer.MIN_VALUE, 0x20A0A0A0, Integer.MIN_VALUE, 100, 100, 100, 100);
        one(0, Integer.MAX_VALUE, 0x20A0A020, Integer.MAX_VALUE - 2, 100, 100, 100, 100);
    }

    /** "the highest first": of one byte that is done among three that are left out, at each place. */
    private static void places() {
        one(0, 5, 0x20FFFFFF, 5, 100);
        one(0, 5, 0xFF20FFFF, 5, 100);
        one(0, 5, 0xFFFF20FF, 5, 100);
        one(0, 5, 0xFFFFFF20, 5, 100);
        one(0, 5, 0x19FFFF20, 8 + 7 + 8, 101, 60, 100);
        one(0, 5, 0x20FFFF19, 5 + 13, 100, 101, 60);
    }

    public static void main(String[] args) {
        // read of 0: 1; read of -1: 0; read of 1 by the kind: 2; turn of 3: 7
        one(0, 1, 0x20A00019, 10, 100, 100, 100, 101, 60);
        // reads of 0 less 0, of 5, of 0 less 15, of 5
        one(0, 5, 0xA020A020, 5 + 10 - 10 + 10, 100, 100, 100, 100);
        // bit 7 alone: read by the kind
        one(0, 5, 0x80008000, 5 + 10 - 10 + 10, 100, 100, 100, 100);
        // act 12, way 7, a way not borne and an act that the way does not have: all are left out
        one(0, 5, 0x0C703010, 0);
        // one that is left out leaves the sum as it was
        one(0, 5, 0x200F2010, 15, 100, 100);
        one(0, 5, 0x0000007F, 5 + 10 + 20, 100, 100, 100);
        // write, by each way that has it
        one(1, 1, 0x03133343, 31 + (31 * 31 + 31) + (992 * 31 + 31 + 992), 62, 62, 62);
        // log by LOGGED; act 15 by way 7 with bit 7 is left out
        one(7, 0, 0x68FFFFFF, 7 * 5 + 16, 51, 52, 70, 70);
        for (int kind = 0; kind < 11; kind++) {
            eachByte(kind);
        }
        allLeftOut();
        wraps();
        places();
        refused();
        Due.end("Promise05FeedTest");
    }
}
