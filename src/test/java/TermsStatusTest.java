import java.util.ArrayList;
import java.util.List;

/**
 * The terms: "STATUS of the latest of device(), call(), every(), feed(), link(), pass(), state(), 0 at first: 0 it was
 * done; else the first of these that holds, and nothing is changed but the STATUS".
 */
public final class TermsStatusTest {
    private static final int NONE = LineOfHeirs.NONE;
    private static final int MAX = Integer.MAX_VALUE, MIN = Integer.MIN_VALUE;
    private static final int DEVICES = 3;

    /** One call on a house. */
    private interface Call {
        int on(LineOfHeirs house);
    }

    /** A PUMP, a VALVE and a LEDGER that have acted, are linked and have taken; the chain is not empty. */
    private static LineOfHeirs lived() {
        LineOfHeirs house = new LineOfHeirs();
        house.device(0, 7);
        house.device(1, -4);
        house.device(10, 31);
        house.link(0, 1);
        house.link(1, 2);
        house.link(2, 2);
        house.call(2, 5, 1, 3);
        house.pass(0, 6);
        return house;
    }

    /** All that can be seen of a house but its status. */
    private static List<Integer> seen(LineOfHeirs house) {
        List<Integer> seen = new ArrayList<>();
        for (int what = 0; what <= 6; what++) {
            seen.add(house.size(what));
        }
        for (int d = 0; d < DEVICES; d++) {
            for (int what = 0; what <= 5; what++) {
                seen.add(house.state(d, what));
            }
            for (int way = 0; way <= 6; way++) {
                seen.add(house.able(d, way));
            }
        }
        seen.add(house.ran());
        for (int i = 0; i < 64; i++) {
            seen.add(house.chain(i));
        }
        return seen;
    }

    private static void refused(String what, Call call, int answer, int status) {
        LineOfHeirs house = lived();
        List<Integer> before = seen(house);
        Due.is(what, house, call.on(house), answer, status);
        Due.is(what + " changes nothing but the STATUS", seen(house).equals(before) ? 1 : 0, 1);
        Due.is(what + " takes no number", house.device(3, 0), DEVICES);
        Due.is(what + " takes no link's number", house.link(0, 0), 3);
    }

    /** "1 a number (of a device, a KIND, an act, a way, what) that there is not": too small, and too large. */
    private static void aNumberThatThereIsNot() {
        for (int d : new int[] {-1, DEVICES, MIN, MAX}) {
            refused("call(" + d + ", 3, 1, 1)", house -> house.call(d, 3, 1, 1), 0, 1);
            refused("feed(" + d + ", 0x13131313)", house -> house.feed(d, 0x13131313), 0, 1);
            refused("link(" + d + ", 0)", house -> house.link(d, 0), NONE, 1);
            refused("link(0, " + d + ")", house -> house.link(0, d), NONE, 1);
            refused("pass(" + d + ", 1)", house -> house.pass(d, 1), 0, 1);
            refused("state(" + d + ", 0)", house -> house.state(d, 0), 0, 1);
        }
        for (int kind : new int[] {-1, 11, MIN, MAX}) {
            refused("device(" + kind + ", 1)", house -> house.device(kind, 1), NONE, 1);
        }
        for (int act : new int[] {-1, 12, MIN, MAX}) {
            refused("call(0, " + act + ", 0, 1)", house -> house.call(0, act, 0, 1), 0, 1);
            refused("every(" + act + ", 0, 1)", house -> house.every(act, 0, 1), 0, 1);
        }
        for (int way : new int[] {-1, 7, MIN, MAX}) {
            refused("call(0, 3, " + way + ", 1)", house -> house.call(0, 3, way, 1), 0, 1);
            refused("every(3, " + way + ", 1)", house -> house.every(3, way, 1), 0, 1);
        }
        for (int what : new int[] {-1, 6, MIN, MAX}) {
            refused("state(0, " + what + ")", house -> house.state(0, what), 0, 1);
        }
    }

    /** "2 the device does not BEAR the way": of the PUMP all but 0, 1 and READS, of the VALVE all but WRITES. */
    private static void theDeviceDoesNotBearTheWay() {
        refused("call(0, 3, 3, 1)", house -> house.call(0, 3, 3, 1), 0, 2);
        refused("call(0, 0, 4, 1)", house -> house.call(0, 0, 4, 1), 0, 2);
        refused("call(0, 5, 5, 1)", house -> house.call(0, 5, 5, 1), 0, 2);
        refused("call(0, 5, 6, 1)", house -> house.call(0, 5, 6, 1), 0, 2);
        refused("call(1, 2, 2, 1)", house -> house.call(1, 2, 2, 1), 0, 2);
        refused("call(1, 4, 4, 1)", house -> house.call(1, 4, 4, 1), 0, 2);
    }

    /** "3 the way does not have the act". */
    private static void theWayDoesNotHaveTheAct() {
        refused("call(0, 4, 0, 1): PUMP has no put", house -> house.call(0, 4, 0, 1), 0, 3);
        refused("call(1, 0, 0, 1): VALVE has no read", house -> house.call(1, 0, 0, 1), 0, 3);
        refused("call(2, 0, 1, 1)", house -> house.call(2, 0, 1, 1), 0, 3);
        refused("call(2, 3, 2, 1)", house -> house.call(2, 3, 2, 1), 0, 3);
        refused("call(2, 1, 3, 1)", house -> house.call(2, 1, 3, 1), 0, 3);
        refused("call(2, 5, 4, 1)", house -> house.call(2, 5, 4, 1), 0, 3);
        refused("call(2, 8, 5, 1)", house -> house.call(2, 8, 5, 1), 0, 3);
        refused("call(2, 3, 6, 1)", house -> house.call(2, 3, 6, 1), 0, 3);
        refused("every(0, 1, 1)", house -> house.every(0, 1, 1), 0, 3);
        refused("every(3, 2, 1)", house -> house.every(3, 2, 1), 0, 3);
        refused("every(1, 3, 1)", house -> house.every(1, 3, 1), 0, 3);
        refused("every(5, 4, 1)", house -> house.every(5, 4, 1), 0, 3);
        refused("every(8, 5, 1)", house -> house.every(8, 5, 1), 0, 3);
        refused("every(3, 6, 1)", house -> house.every(3, 6, 1), 0, 3);
    }

    /** "the first of these that holds", of calls of which several do. */
    private static void theFirstOfTheseThatHolds() {
        refused("1 before 2: act 12 by a way not borne", house -> house.call(0, 12, 3, 1), 0, 1);
        refused("1 before 2: act -1 by a way not borne", house -> house.call(0, -1, 3, 1), 0, 1);
        refused("1 before 3: act 12 of a way", house -> house.call(0, 12, 1, 1), 0, 1);
        refused("1 before 3: a read by UNIT of no device", house -> house.call(DEVICES, 0, 1, 1), 0, 1);
        refused("1 before 2 and 3: a way 7 of a LEDGER's sum", house -> house.call(2, 11, 7, 1), 0, 1);
        refused("2 before 3: a PUMP's sum by WRITES", house -> house.call(0, 11, 3, 1), 0, 2);
        refused("2 before 3: a VALVE's put by LOGGED", house -> house.call(1, 4, 6, 1), 0, 2);
        refused("1 before 3: every act 12 by UNIT", house -> house.every(12, 1, 1), 0, 1);
        refused("1 before 3: every act -1 by LOGGED", house -> house.every(-1, 6, 1), 0, 1);
        refused("all of a call's numbers", house -> house.call(-1, -1, -1, 1), 0, 1);
        refused("all of an every's numbers", house -> house.every(12, 7, 1), 0, 1);
        refused("both of a link's numbers", house -> house.link(-1, DEVICES), NONE, 1);
        refused("both of a state's numbers", house -> house.state(-1, 6), 0, 1);
    }

    /** "5 there is no room", and 1 before 5. */
    private static void thereIsNoRoom() {
        LineOfHeirs full = new LineOfHeirs();
        for (int d = 0; d < 300; d++) {
            full.device(2, d);
        }
        full.call(299, 6, 5, 1);
        Due.is("device(2, 1) of 300", full, full.device(2, 1), NONE, 5);
        Due.chain("device(2, 1) of 300", full, 120, 70);
        Due.is("device(-1, 1) of 300: 1 before 5", full, full.device(-1, 1), NONE, 1);
        Due.is("device(11, 1) of 300: 1 before 5", full, full.device(11, 1), NONE, 1);
        for (int what = 0; what <= 6; what++) {
            Due.is("then size(" + what + ")", full.size(what), what == 0 || what == 5 ? 300 : 0);
        }
        LineOfHeirs linked = new LineOfHeirs();
        linked.device(2, 9);
        for (int i = 0; i < 400; i++) {
            linked.link(0, 0);
        }
        linked.pass(0, 1);
        Due.is("link(0, 0) of 400", linked, linked.link(0, 0), NONE, 5);
        Due.chain("link(0, 0) of 400", linked, 120, 70);
        Due.is("link(0, 1) of 400: 1 before 5", linked, linked.link(0, 1), NONE, 1);
        Due.is("link(-1, 0) of 400: 1 before 5", linked, linked.link(-1, 0), NONE, 1);
        int[] facts = {2, 9, 1, 400, 400, 1};
        for (int what = 0; what < facts.length; what++) {
            Due.is("then state(0, " + what + ")", linked, linked.state(0, what), facts[what], 0);
        }
        Due.is("then size(1)", linked.size(1), 400);
        Due.is("devices still have room", linked, linked.device(0, 0), 1, 0);
    }

    /** "0 at first", and 0 again where a refused call is followed by one that was done. */
    private static void zero() {
        Due.is("status() of a new one", new LineOfHeirs().status(), 0);
        Call[] done = {
            house -> house.device(0, 0), house -> house.call(0, 3, 1, 0), house -> house.every(3, 1, 0),
            house -> house.feed(0, -1), house -> house.link(0, 0), house -> house.pass(0, 0),
            house -> house.state(0, 0)
        };
        Call[] refused = {
            house -> house.device(11, 0), house -> house.call(0, 3, 3, 0), house -> house.every(3, 2, 0),
            house -> house.feed(9, 0), house -> house.link(0, 9), house -> house.pass(9, 0),
            house -> house.state(0, 9)
        };
        int[] status = {1, 2, 3, 1, 1, 1, 1};
        for (int i = 0; i < done.length; i++) {
            LineOfHeirs house = lived();
            for (int j = 0; j < refused.length; j++) {
                refused[j].on(house);
                Due.is("status() of refused call " + j, house.status(), status[j]);
                done[i].on(house);
                Due.is("status() of done call " + i + " behind it", house.status(), 0);
            }
        }
    }

    public static void main(String[] args) {
        aNumberThatThereIsNot();
        theDeviceDoesNotBearTheWay();
        theWayDoesNotHaveTheAct();
        theFirstOfTheseThatHolds();
        thereIsNoRoom();
        zero();
        Due.end("TermsStatusTest");
    }
}
