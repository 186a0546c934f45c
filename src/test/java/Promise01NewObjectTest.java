/** Promise 1: a new object has no devices and no links. */
public final class Promise01NewObjectTest {
    private static void isNew(String which, LineOfHeirs house) {
        Due.is(which + " status()", house.status(), 0);
        for (int what = 0; what <= 6; what++) {
            Due.is(which + " size(" + what + ")", house.size(what), 0);
        }
        Due.chain(which, house);
        Due.is(which + " able(0, 0)", house.able(0, 0), LineOfHeirs.NONE);
        Due.is(which + " call(0, 3, 1, 1)", house, house.call(0, 3, 1, 1), 0, 1);
        Due.is(which + " link(0, 0)", house, house.link(0, 0), LineOfHeirs.NONE, 1);
        Due.is(which + " pass(0, 1)", house, house.pass(0, 1), 0, 1);
        Due.is(which + " state(0, 0)", house, house.state(0, 0), 0, 1);
        Due.is(which + " every(3, 1, 1)", house, house.every(3, 1, 1), 0, 0);
        Due.chain(which + " every", house);
    }

    public static void main(String[] args) {
        isNew("the first", new LineOfHeirs());
        LineOfHeirs used = new LineOfHeirs();
        used.device(1, 5);
        used.link(0, 0);
        used.call(0, 3, 1, 2);
        isNew("one beside a used one", new LineOfHeirs());
        Due.is("the used one's size(0)", used.size(0), 1);
        Due.is("the used one's size(1)", used.size(1), 1);
        Due.is("the used one's state(0, 1)", used.state(0, 1), 157);
        Due.end("Promise01NewObjectTest");
    }
}
