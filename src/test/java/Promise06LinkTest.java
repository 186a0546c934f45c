/** Promise 6: link(a, b) makes links, numbered from 0 on, up to 400. */
public final class Promise06LinkTest {
    private static LineOfHeirs three() {
        LineOfHeirs house = new LineOfHeirs();
        house.device(0, 1);
        house.device(1, 2);
        house.device(2, 3);
        return house;
    }

    private static void ends(LineOfHeirs house, int d, int from, int to) {
        Due.is("state(" + d + ", 3)", house.state(d, 3), from);
        Due.is("state(" + d + ", 4)", house.state(d, 4), to);
    }

    private static void numbers() {
        LineOfHeirs house = three();
        Due.is("link(0, 1)", house, house.link(0, 1), 0, 0);
        Due.is("link(0, 1) again", house, house.link(0, 1), 1, 0);
        Due.is("link(2, 2)", house, house.link(2, 2), 2, 0);
        Due.is("link(1, 0)", house, house.link(1, 0), 3, 0);
        Due.is("size(1)", house.size(1), 4);
        ends(house, 0, 2, 1);
        ends(house, 1, 1, 2);
        ends(house, 2, 1, 1);
        Due.chain("linking", house);
    }

    private static void wrong() {
        LineOfHeirs house = three();
        int[] outside = {-1, 3, 300, Integer.MIN_VALUE, Integer.MAX_VALUE};
        for (int d : outside) {
            Due.is("link(0, " + d + ")", house, house.link(0, d), LineOfHeirs.NONE, 1);
            Due.is("link(" + d + ", 0)", house, house.link(d, 0), LineOfHeirs.NONE, 1);
            Due.is("link(" + d + ", " + d + ")", house, house.link(d, d), LineOfHeirs.NONE, 1);
        }
        Due.is("size(1)", house.size(1), 0);
        ends(house, 0, 0, 0);
        Due.is("link(0, 2) after wrong ones", house, house.link(0, 2), 0, 0);
    }

    /** "perhaps the same": one device has all the links there can be, from it and to it. */
    private static void allToItself() {
        LineOfHeirs house = new LineOfHeirs();
        house.device(0, 1);
        for (int i = 0; i < 400; i++) {
            Due.is("link " + i + " to itself", house.link(0, 0), i);
        }
        Due.is("link 401 to itself", house, house.link(0, 0), LineOfHeirs.NONE, 5);
        ends(house, 0, 400, 400);
    }

    /** From and to the last of 300 devices. */
    private static void ofTheLastDevice() {
        LineOfHeirs house = new LineOfHeirs();
        for (int d = 0; d < 300; d++) {
            house.device(0, d);
        }
        Due.is("link(299, 0)", house, house.link(299, 0), 0, 0);
        Due.is("link(0, 299)", house, house.link(0, 299), 1, 0);
        Due.is("link(299, 299)", house, house.link(299, 299), 2, 0);
        Due.is("link(299, 300)", house, house.link(299, 300), LineOfHeirs.NONE, 1);
        Due.is("link(300, 299)", house, house.link(300, 299), LineOfHeirs.NONE, 1);
        ends(house, 299, 2, 2);
        ends(house, 0, 1, 1);
    }

    private static void withoutDevices() {
        LineOfHeirs house = new LineOfHeirs();
        Due.is("link(0, 0) without devices", house, house.link(0, 0), LineOfHeirs.NONE, 1);
        Due.is("size(1)", house.size(1), 0);
    }

    private static void noRoom() {
        LineOfHeirs house = three();
        for (int i = 0; i < 400; i++) {
            Due.is("link " + i, house.link(i % 3, 1), i);
        }
        Due.is("status() of link 400", house.status(), 0);
        Due.is("link 401", house, house.link(0, 1), LineOfHeirs.NONE, 5);
        Due.is("link 401, to itself", house, house.link(2, 2), LineOfHeirs.NONE, 5);
        Due.is("a wrong link where there is no room", house, house.link(0, 3), LineOfHeirs.NONE, 1);
        Due.is("a wrong link from -1 where there is no room", house, house.link(-1, 0), LineOfHeirs.NONE, 1);
        Due.is("size(1)", house.size(1), 400);
        ends(house, 0, 134, 0);
        ends(house, 1, 133, 400);
        ends(house, 2, 133, 0);
    }

    public static void main(String[] args) {
        numbers();
        wrong();
        withoutDevices();
        allToItself();
        ofTheLastDevice();
        noRoom();
        Due.end("Promise06LinkTest");
    }
}
