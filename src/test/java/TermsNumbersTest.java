/**
 * The terms: "All numbers are of 32 bits and wrap; what an expression says is done from the left to the right, and
 * v, c are what they are when they are come to."
 */
public final class TermsNumbersTest {
    private static final int READ = 0, PEEK = 1, GLANCE = 2, WRITE = 3, PUT = 4, COUNT = 5;
    private static final int ADD = 6, TALLY = 7, LOG = 8, TURN = 9, REST = 10, SUM = 11;
    private static final int PUMP = 0, VALVE = 1, METER = 2, FINE = 3, RELAY = 4, TWIN = 5;
    private static final int MUTE = 6, GAUGE = 7, BOOST = 8, SIPHON = 9, LEDGER = 10;
    private static final int MAX = Integer.MAX_VALUE, MIN = Integer.MIN_VALUE;
    private static final int QUARTER = 1 << 30;
    // Three times this is MAX + 2.
    private static final int THIRD = 715827883;

    /** One act of a new device: what it answers, and its VALUE and COUNT behind it. */
    private static void one(String which, int kind, int v, int act, int x, int want, int thenV, int thenC) {
        LineOfHeirs house = new LineOfHeirs();
        house.device(kind, v);
        String what = which + ": kind " + kind + " of " + v + ", call(0, " + act + ", 0, " + x + ")";
        Due.is(what, house, house.call(0, act, 0, x), want, 0);
        Due.is(what + ", then its VALUE", house.state(0, 1), thenV);
        Due.is(what + ", then its COUNT", house.state(0, 2), thenC);
    }

    /** Each body of the interfaces that can pass an end of the numbers by itself. */
    private static void bodiesOfInterfacesWrap() {
        one("10 above MAX", PUMP, 0, PEEK, MAX, MIN, 0, 0);
        one("11 below MIN", PUMP, 0, GLANCE, QUARTER, MIN + 2, 0, 0);
        one("20 above MAX", VALVE, 0, PUT, THIRD, -2147483637, 1431655777, 0);
        one("30 above MAX", TWIN, THIRD, GLANCE, 0, -1431655435, 715828236, 2);
        one("40 at MAX + 1", MUTE, 0, ADD, QUARTER, MIN, 0, 0);
        one("41 above MAX", METER, THIRD, TALLY, 0, -2147483560, THIRD, 2);
        one("50 below MIN", GAUGE, THIRD, TALLY, 0, 2147483601, THIRD, 4);
        one("51 just at MAX", GAUGE, 0, LOG, -429496740, MAX, 0, 2);
        one("51 at MAX + 1", GAUGE, 0, LOG, -1288490199, MIN, 0, 2);
        one("52 above MAX", GAUGE, 0, LOG, THIRD, -715827830, 0, 2);
    }

    private static void bodiesOfAncestorsWrap() {
        one("60 at MAX + 1", VALVE, 1, TURN, MAX, MIN, MIN, 0);
        one("60 at MIN - 1", VALVE, -1, TURN, MIN, MAX, MAX, 0);
        one("61 below MIN", PUMP, 0, REST, THIRD, MAX, MAX, 0);
        one("62 above MAX", PUMP, THIRD, WRITE, 0, 715827893, 715827893, 0);
        one("64 above MAX", METER, THIRD, SUM, 7, -2147483639, 715827887, 0);
        one("70 above MAX", PUMP, 0, COUNT, MAX - 1, MIN + 5, 0, 1);
    }

    private static void bodiesOfKindsWrap() {
        one("100 at MAX + 1", PUMP, 1, READ, MAX, MIN, 1, 0);
        one("100 at MIN - 1", PUMP, -1, READ, MIN, MAX, -1, 0);
        one("101 at MAX + 1", PUMP, MAX - 1, TURN, -1, MIN, MAX, 0);
        one("110 below MIN", VALVE, 1, REST, THIRD, -THIRD, MIN, 0);
        one("111 at MIN - 1", VALVE, 0, PUT, 1106279455, MAX, 1041204193, 0);
        one("112 at 0 less MIN", VALVE, -1, REST, MIN, MAX - 1, MAX, 0);
        one("120 above MAX", METER, 0, ADD, THIRD, -2147483626, 0, 1);
        one("130 above MAX", FINE, 0, READ, THIRD, MIN + 1, 0, 0);
        one("131 above MAX", FINE, 0, PEEK, MAX - 1, MIN + 3, 0, 0);
        one("140 at 0 less MIN", RELAY, 0, READ, MIN, MIN, 0, 0);
        one("141 above MAX", RELAY, -QUARTER, GLANCE, 0, -2147483567, 1 - QUARTER, 0);
        one("142 above MAX", RELAY, -1, REST, MAX, MIN + 2, MAX, 0);
        one("150 above MAX", TWIN, MAX - 1, READ, 0, MIN + 5, MAX - 1, 1);
        one("151 of wrapped ones", TWIN, MIN, TURN, 0, -2147483521, -2147483615, 2);
        one("152 at MAX + 1", TWIN, 0, PUT, 65075262, MIN, 2082408385, 0);
        one("162 above MAX", MUTE, 0, TURN, MAX - 1, MIN + 98, 1, 0);
        one("163 above MAX", MUTE, MAX - 1, TURN, 0, MIN + 98, MAX, 0);
        one("180 at MIN - 1", BOOST, MAX - 1, TURN, -1, MAX, MAX, 0);
        one("181 above MAX", BOOST, QUARTER, GLANCE, 0, 1073741863, QUARTER, 0);
        one("190 below MIN", SIPHON, THIRD, READ, 0, -1431655764, THIRD, 0);
        one("200 above MAX", LEDGER, 0, TALLY, MAX - 1, -104, 0, 4);
        one("202 below MIN", LEDGER, THIRD, GLANCE, MAX - 1, -1431924521, 716105869, 0);
        one("204 just at MAX", LEDGER, 0, COUNT, MAX - 8, MAX, 0, 1);
        one("204 at MAX + 1", LEDGER, 0, COUNT, MAX - 7, MIN, 0, 1);
    }

    /** Where a body gives x + 1 or x + 2 on: behind MAX comes MIN. */
    private static void whatIsGivenOnWraps() {
        one("11 gives MAX + 1", PUMP, 0, GLANCE, MAX, 0, 0, 0);
        one("20 gives MAX + 1", VALVE, 0, PUT, MAX, 2147483615, -31, 0);
        one("30 gives MAX + 1", TWIN, 0, GLANCE, MAX, -2147483554, 1, 2);
        one("101 gives MAX + 1", PUMP, 0, TURN, MAX - 1, MIN + 1, MIN, 0);
        one("101 gives MAX + 2", PUMP, 0, TURN, MAX, MIN + 2, MIN + 1, 0);
        one("131 gives MAX + 1", FINE, 0, PEEK, MAX, MIN + 6, 0, 0);
        one("142 gives MAX + 1", RELAY, 0, REST, MAX, MIN + 4, MIN, 0);
    }

    /** Of a number below 0 too, all 32 bits are taken. */
    private static void bitsOfNumbersBelow0() {
        one("21", VALVE, -1, GLANCE, 0, -907, -960, 0);
        one("63", METER, -5, SUM, -1, -7, -9, 0);
        one("63", METER, 0, SUM, 5, 14, 2, 0);
        one("161 of an even one", MUTE, 0, LOG, 50, 252, 0, 0);
        one("161 of an odd one", MUTE, 5, LOG, 3, 17, 5, 0);
        one("161 of one below 0", MUTE, 0, LOG, -1, 253, 0, 0);
        one("161 of a wrapped one", MUTE, 0, LOG, MAX, 253, 0, 0);
    }

    /** "v, c are what they are when they are come to": behind a body that changes them, they are the new ones. */
    private static void whenTheyAreComeTo() {
        // turn(2): 3; rest(1): 0; own(2): 0 ^ 2, where the first v would give 1 ^ 2
        one("64: own behind turn and rest", METER, 1, SUM, 2, 5, 0, 0);
        // v is 10 - 6 then: 4 * 2 + (0 - 2)
        one("110: the answer of rest is the new v", VALVE, 10, REST, 2, 6, 4, 0);
        // count(0): c is 1 when it is come to, 7 + 0; and v 5, and 1
        one("150: the new c", TWIN, 5, PEEK, 0, 13, 5, 1);
        // rest(1): v is 7 then, 7 * 2 + (0 - 1); read(1): 13 * 2; and 1
        one("190: rest changes v", SIPHON, 10, PEEK, 1, 27, 7, 0);
        // the second read of glance, and put behind it, find the v that the first one left
        one("30: the right side behind the left one", SIPHON, 10, GLANCE, 1, 1224, 1026, 0);
        // mark takes c as the tally before it left it: 4
        one("201: mark behind tally", LEDGER, 5, TALLY, 0, -104, 5, 4);
        LineOfHeirs house = new LineOfHeirs();
        house.device(SIPHON, 10);
        house.call(0, COUNT, 0, 0);
        house.call(0, COUNT, 0, 0);
        Due.is("110: c of 2 counts: (10 - 6) * 2 + (2 - 2)", house, house.call(0, REST, 0, 2), 8, 0);
    }

    /** The VALUE that device() is given is kept to the last bit, and the COUNT begins at 0. */
    private static void theFirstValueAndCount() {
        for (int v : new int[] {MIN, MIN + 1, -1, 0, 1, MAX - 1, MAX}) {
            one("a VALUE", PUMP, v, READ, 0, v, v, 0);
        }
    }

    public static void main(String[] args) {
        bodiesOfInterfacesWrap();
        bodiesOfAncestorsWrap();
        bodiesOfKindsWrap();
        whatIsGivenOnWraps();
        bitsOfNumbersBelow0();
        whenTheyAreComeTo();
        theFirstValueAndCount();
        Due.end("TermsNumbersTest");
    }
}
