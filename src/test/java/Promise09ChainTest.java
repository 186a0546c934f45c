/** Promise 9: chain(i) tells the bodies that ran, the first 64 of them. */
public final class Promise09ChainTest {
    private static void theFirst64() {
        LineOfHeirs house = new LineOfHeirs();
        for (int d = 0; d < 66; d++) {
            house.device(d == 63 ? 6 : 2, 0);
        }
        house.every(5, 1, 0);
        for (int i = 0; i < 63; i++) {
            Due.is("chain(" + i + ")", house.chain(i), 70);
        }
        Due.is("chain(63)", house.chain(63), 160);
        Due.is("chain(64)", house.chain(64), LineOfHeirs.NONE);
        Due.is("chain(65)", house.chain(65), LineOfHeirs.NONE);
        Due.is("chain(-1)", house.chain(-1), LineOfHeirs.NONE);
        Due.is("chain(MIN)", house.chain(Integer.MIN_VALUE), LineOfHeirs.NONE);
        Due.is("chain(MAX)", house.chain(Integer.MAX_VALUE), LineOfHeirs.NONE);
        Due.is("ran()", house.ran(), 66);
        house.call(63, 9, 1, 0);
        Due.chain("a shorter one", house, 163, 162, 60);
        Due.is("chain(5) of the shorter one", house.chain(5), LineOfHeirs.NONE);
    }

    /** "the first 64 of these are kept": of one fewer, of just as many, of one more, and of four times as many. */
    private static void aroundThe64() {
        for (int bodies : new int[] {1, 62, 63, 64, 65, 66, 256}) {
            LineOfHeirs house = new LineOfHeirs();
            for (int d = 0; d < bodies; d++) {
                house.device(0, d);
            }
            house.every(5, 1, 0);
            int kept = Math.min(64, bodies);
            Due.is(bodies + " ran: chain(0)", house.chain(0), 70);
            Due.is(bodies + " ran: chain(" + (kept - 1) + ")", house.chain(kept - 1), 70);
            Due.is(bodies + " ran: chain(" + kept + ")", house.chain(kept), LineOfHeirs.NONE);
            Due.is(bodies + " ran: chain(" + bodies + ")", house.chain(bodies), LineOfHeirs.NONE);
            Due.is(bodies + " ran: chain(-1)", house.chain(-1), LineOfHeirs.NONE);
            Due.is(bodies + " ran: ran()", house.ran(), bodies);
        }
    }

    /** The 64th body begins the fourth glance of a feed, of 21 each, and ends the sixteenth put of a pulse, of 4. */
    private static void the64thOfAFeedAndOfAPulse() {
        LineOfHeirs house = new LineOfHeirs();
        house.device(10, 1);
        house.feed(0, 0x02020202);
        Due.is("feed: ran()", house.ran(), 84);
        Due.is("feed: chain(62)", house.chain(62), 140);
        Due.is("feed: chain(63)", house.chain(63), 202);
        Due.is("feed: chain(64)", house.chain(64), LineOfHeirs.NONE);
        house = new LineOfHeirs();
        for (int d = 0; d < 17; d++) {
            house.device(1, 1);
        }
        for (int d = 16; d > 0; d--) {
            house.link(d, d - 1);
        }
        house.pass(16, 1);
        Due.is("pass: ran()", house.ran(), 68);
        Due.is("pass: chain(60)", house.chain(60), 111);
        Due.is("pass: chain(63)", house.chain(63), 62);
        Due.is("pass: chain(64)", house.chain(64), LineOfHeirs.NONE);
        house.device(0, 1);
        house.call(17, 0, 2, 1);
        Due.chain("a short one behind a long one", house, 100);
        Due.is("chain(63) of the short one", house.chain(63), LineOfHeirs.NONE);
    }

    /** "(Without one: none ran.)", and one that was done but ran nothing leaves an empty chain. */
    private static void none() {
        LineOfHeirs house = new LineOfHeirs();
        Due.chain("a new house", house);
        Due.is("chain(-1) of a new house", house.chain(-1), LineOfHeirs.NONE);
        Due.is("chain(63) of a new house", house.chain(63), LineOfHeirs.NONE);
        house.device(0, 1);
        house.call(0, 4, 0, 1);
        house.every(0, 1, 1);
        house.feed(1, 0);
        house.pass(1, 0);
        Due.chain("a house where all was refused", house);
        house.call(0, 0, 0, 1);
        house.every(8, 6, 1);
        Due.chain("every() that none bears", house);
        house.call(0, 0, 0, 1);
        house.feed(0, -1);
        Due.chain("feed() that leaves all out", house);
    }

    private static void bodiesInTheOrderOfTheirBeginning() {
        LineOfHeirs house = new LineOfHeirs();
        Due.chain("nothing", house);
        house.device(8, 10);
        house.call(0, 1, 2, 1);
        Due.chain("peek", house, 131, 10, 130, 100);
        house.feed(0, 0x20190000);
        Due.chain("feed", house, 130, 100, 180, 101, 60, 130, 100, 130, 100);
        house.pass(0, 1);
        Due.chain("pass", house, 131, 10, 130, 100);
        house.every(0, 0, 1);
        Due.chain("every", house, 130, 100);
    }

    private static void itStays() {
        LineOfHeirs house = new LineOfHeirs();
        house.device(0, 1);
        house.call(0, 9, 1, 1);
        house.device(1, 1);
        house.link(0, 1);
        house.state(0, 1);
        house.able(0, 1);
        house.size(0);
        house.call(0, 3, 3, 1);
        house.every(0, 1, 1);
        house.feed(2, 1);
        house.pass(2, 1);
        Due.chain("calls that were not done", house, 101, 60);
    }

    public static void main(String[] args) {
        theFirst64();
        bodiesInTheOrderOfTheirBeginning();
        aroundThe64();
        the64thOfAFeedAndOfAPulse();
        none();
        itStays();
        Due.end("Promise09ChainTest");
    }
}
