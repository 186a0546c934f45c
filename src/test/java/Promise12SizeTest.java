/** Promise 12: size(what) counts devices, links, and who bears a way. */
public final class Promise12SizeTest {
    private static void sizes(String when, LineOfHeirs house, int... want) {
        for (int what = 0; what < want.length; what++) {
            Due.is(when + ": size(" + what + ")", house.size(what), want[what]);
        }
    }

    public static void main(String[] args) {
        LineOfHeirs house = new LineOfHeirs();
        sizes("none", house, 0, 0, 0, 0, 0, 0, 0);
        house.device(6, 1);
        sizes("MUTE", house, 1, 0, 0, 0, 0, 1, 1);
        house.device(9, 1);
        sizes("SIPHON too", house, 2, 0, 1, 1, 1, 1, 1);
        house.link(0, 1);
        house.link(1, 1);
        house.link(1, 2);
        house.device(11, 1);
        sizes("two links", house, 2, 2, 1, 1, 1, 1, 1);
        for (int kind = 0; kind < 11; kind++) {
            house.device(kind, 1);
        }
        sizes("each kind", house, 13, 2, 8, 6, 4, 6, 4);
        house.call(0, 3, 3, 0);
        for (int what : new int[] {-1, 7, 8, 34, Integer.MIN_VALUE, Integer.MAX_VALUE}) {
            Due.is("size(" + what + ")", house, house.size(what), LineOfHeirs.NONE, 2);
        }
        Due.end("Promise12SizeTest");
    }
}
