/** Promise 2: device(kind, v) makes devices, numbered from 0 on, up to 300. */
public final class Promise02DeviceTest {
    private static void eachKind() {
        LineOfHeirs house = new LineOfHeirs();
        int[] values = {0, 1, -1, 7, 100, Integer.MAX_VALUE, Integer.MIN_VALUE, 31, -31, 85, 65536};
        for (int kind = 0; kind < 11; kind++) {
            Due.is("device(" + kind + ", ..)", house, house.device(kind, values[kind]), kind, 0);
            Due.is("state(" + kind + ", 0)", house.state(kind, 0), kind);
            Due.is("state(" + kind + ", 1)", house.state(kind, 1), values[kind]);
            Due.is("state(" + kind + ", 2)", house.state(kind, 2), 0);
        }
        Due.is("size(0)", house.size(0), 11);
        Due.chain("making devices", house);
    }

    private static void wrongKinds() {
        LineOfHeirs house = new LineOfHeirs();
        for (int kind : new int[] {-1, 11, 12, 256, Integer.MIN_VALUE, Integer.MAX_VALUE}) {
            Due.is("device(" + kind + ", 1)", house, house.device(kind, 1), LineOfHeirs.NONE, 1);
            Due.is("size(0)", house.size(0), 0);
        }
        Due.is("device(0, 1) after wrong ones", house, house.device(0, 1), 0, 0);
    }

    /** Where one is refused before the house is full, its number goes to the next. */
    private static void roomForTheLast() {
        LineOfHeirs house = new LineOfHeirs();
        for (int d = 0; d < 299; d++) {
            house.device(0, d);
        }
        Due.is("a wrong kind before the last", house, house.device(11, 1), LineOfHeirs.NONE, 1);
        Due.is("device 300", house, house.device(0, 1), 299, 0);
        Due.is("device 301", house, house.device(0, 1), LineOfHeirs.NONE, 5);
    }

    private static void noRoom() {
        LineOfHeirs house = new LineOfHeirs();
        for (int d = 0; d < 300; d++) {
            Due.is("device number " + d, house.device(d % 11, d), d);
        }
        Due.is("status() of device 300", house.status(), 0);
        Due.is("device 301", house, house.device(0, 1), LineOfHeirs.NONE, 5);
        Due.is("device 301 again", house, house.device(10, 1), LineOfHeirs.NONE, 5);
        Due.is("a wrong kind where there is no room", house, house.device(11, 1), LineOfHeirs.NONE, 1);
        Due.is("a kind below 0 where there is no room", house, house.device(-1, 1), LineOfHeirs.NONE, 1);
        Due.is("size(0)", house.size(0), 300);
        Due.is("state(0, 1)", house, house.state(0, 1), 0, 0);
        Due.is("state(299, 0)", house, house.state(299, 0), 2, 0);
        Due.is("state(299, 1)", house, house.state(299, 1), 299, 0);
        Due.is("state(300, 1)", house, house.state(300, 1), 0, 1);
        Due.is("the last one acts: call(299, 5, 1, 1)", house, house.call(299, 5, 1, 1), 8, 0);
        Due.is("one behind the last: call(300, 5, 1, 1)", house, house.call(300, 5, 1, 1), 0, 1);
    }

    public static void main(String[] args) {
        eachKind();
        wrongKinds();
        roomForTheLast();
        noRoom();
        Due.end("Promise02DeviceTest");
    }
}
