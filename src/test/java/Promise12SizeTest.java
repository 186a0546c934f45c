/** Promise 12: size(what) counts devices, links, and who bears a way. */
public final class Promise12SizeTest {
    private static void sizes(String when, LineOfHeirs house, int... want) {
        for (int what = 0; what < want.length; what++) {
            Due.is(when + ": size(" + what + ")", house.size(what), want[what]);
        }
    }

    private static void full() {
        LineOfHeirs devices = new LineOfHeirs();
        for (int d = 0; d < 299; d++) {
            devices.device(10, d);
        }
        sizes("one short of all devices", devices, 299, 0, 299, 299, 299, 299, 299);
        devices.device(0, 1);
        sizes("all devices", devices, 300, 0, 300, 299, 299, 299, 299);
        devices.device(10, 1);
        sizes("one more", devices, 300, 0, 300, 299, 299, 299, 299);
        LineOfHeirs links = new LineOfHeirs();
        links.device(2, 1);
        for (int i = 0; i < 399; i++) {
            links.link(0, 0);
        }
        sizes("one short of all links", links, 1, 399, 0, 0, 0, 1, 0);
        links.link(0, 0);
        sizes("all links", links, 1, 400, 0, 0, 0, 1, 0);
        links.link(0, 0);
        sizes("one more link", links, 1, 400, 0, 0, 0, 1, 0);
    }

    /** Each kind alone, by the ways that it bears. */
    private static void ofOne() {
        String[] borne = {"10000", "01000", "00010", "10000", "11000", "11110", "00011", "00011", "10000", "11100",
            "11111"};
        for (int kind = 0; kind < 11; kind++) {
            LineOfHeirs house = new LineOfHeirs();
            house.device(kind, 0);
            for (int way = 2; way <= 6; way++) {
                Due.is("kind " + kind + " alone: size(" + way + ")", house.size(way), borne[kind].charAt(way - 2) - '0');
            }
        }
    }

    public static void main(String[] args) {
        full();
        ofOne();
        LineOfHeirs house = new LineOfHeirs();
        sizes("none", house, 0, 0, 0, 0, 0, 0, 0);
        house.device(6, 1);
        sizes("MUTE", house, 1, 0, 0, 0, 0, 1, 1);
        house.device(9, 1);
        sizes("SIPHON too", house, 2, 0, 1, 1, 1, 1, 1);
        house.link(0, 1);
        house.link(1, 1);
        house.link(1, 2);
        house.device(11, 1);
        sizes("two links", house, 2, 2, 1, 1, 1, 1, 1);
        for (int kind = 0; kind < 11; kind++) {
            house.device(kind, 1);
        }
        sizes("each kind", house, 13, 2, 8, 6, 4, 6, 4);
        house.call(0, 3, 3, 0);
        for (int what : new int[] {-1, 7, 8, 34, Integer.MIN_VALUE, Integer.MAX_VALUE}) {
            Due.is("size(" + what + ")", house, house.size(what), LineOfHeirs.NONE, 2);
        }
        Due.end("Promise12SizeTest");
    }
}
