/** Promise 1: a new object has no devices and no links. */
public final class Promise01NewObjectTest {
    private static void isNew(String which, LineOfHeirs house) {
        Due.is(which + " status()", house.status(), 0);
        for (int what = 0; what <= 6; what++) {
            Due.is(which + " size(" + what + ")", house.size(what), 0);
        }
        Due.chain(which, house);
        for (int way = 0; way <= 6; way++) {
            Due.is(which + " able(0, " + way + ")", house.able(0, way), LineOfHeirs.NONE);
        }
        Due.is(which + " call(0, 3, 1, 1)", house, house.call(0, 3, 1, 1), 0, 1);
        Due.is(which + " link(0, 0)", house, house.link(0, 0), LineOfHeirs.NONE, 1);
        Due.is(which + " feed(0, 0x13131313)", house, house.feed(0, 0x13131313), 0, 1);
        Due.is(which + " pass(0, 1)", house, house.pass(0, 1), 0, 1);
        Due.is(which + " state(0, 0)", house, house.state(0, 0), 0, 1);
        Due.is(which + " every(3, 1, 1)", house, house.every(3, 1, 1), 0, 0);
        Due.chain(which + " every", house);
    }

    /** "An object is used for at most 512 calls after it has been made": the last of them answers as the others. */
    private static void theLastOf512Calls() {
        LineOfHeirs house = new LineOfHeirs();
        Due.is("call 1: device(0, 0)", house.device(0, 0), 0);
        for (int call = 2; call <= 512; call++) {
            Due.is("call " + call + ": call(0, 5, 1, 0)", house.call(0, 5, 1, 0), (call - 1) * 7);
        }
    }

    public static void main(String[] args) {
        isNew("the first", new LineOfHeirs());
        LineOfHeirs used = new LineOfHeirs();
        used.device(1, 5);
        used.link(0, 0);
        used.call(0, 3, 1, 2);
        isNew("one beside a used one", new LineOfHeirs());
        Due.is("the used one's size(0)", used.size(0), 1);
        Due.is("the used one's size(1)", used.size(1), 1);
        Due.is("the used one's state(0, 1)", used.state(0, 1), 157);
        theLastOf512Calls();
        Due.end("Promise01NewObjectTest");
    }
}
