/** Promise 10: ran() counts all bodies of the chain, beyond the 64 too. */
public final class Promise10RanTest {
    public static void main(String[] args) {
        LineOfHeirs house = new LineOfHeirs();
        Due.is("ran() of a new one", house.ran(), 0);
        for (int d = 0; d < 300; d++) {
            house.device(10, d);
            Due.is("ran() after device()", house.ran(), 0);
        }
        house.every(2, 0, 1);
        Due.is("ran() after 300 glances", house.ran(), 300 * 21);
        house.every(7, 6, 1);
        Due.is("ran() after 300 tallies", house.ran(), 300 * 16);
        house.every(3, 1, 1);
        Due.is("ran() after 300 writes", house.ran(), 300);
        house.link(0, 1);
        house.state(0, 1);
        house.call(0, 12, 0, 1);
        house.every(8, 1, 1);
        house.feed(-1, 0);
        house.pass(300, 0);
        Due.is("ran() after calls that run nothing", house.ran(), 300);
        house.pass(0, 1);
        Due.is("ran() after a pulse of two", house.ran(), 8);
        house.feed(0, 0x03030303);
        Due.is("ran() after four writes", house.ran(), 4);
        house.feed(0, 0x70707070);
        Due.is("ran() after four that were left out", house.ran(), 0);
        house.call(0, 3, 1, 1);
        Due.is("ran() after a write", house.ran(), 1);
        Due.end("Promise10RanTest");
    }
}
