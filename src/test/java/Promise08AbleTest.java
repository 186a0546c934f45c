/** Promise 8: able(d, way) tells whether a device bears a way. */
public final class Promise08AbleTest {
    // By kinds; a 1 for each way that the kind bears.
    private static final String[] BORNE = {
        "1110000", "1101000", "1100010", "1110000", "1111000", "1111110",
        "1100011", "1100011", "1110000", "1111100", "1111111"
    };

    public static void main(String[] args) {
        LineOfHeirs house = new LineOfHeirs();
        for (int kind = 0; kind < 11; kind++) {
            house.device(kind, kind);
        }
        for (int kind = 0; kind < 11; kind++) {
            for (int way = 0; way < 7; way++) {
                Due.is("able(" + kind + ", " + way + ")", house.able(kind, way), BORNE[kind].charAt(way) - '0');
            }
        }
        int[][] wrong = {{-1, 0}, {11, 0}, {300, 0}, {Integer.MIN_VALUE, 0}, {Integer.MAX_VALUE, 0},
            {0, -1}, {0, 7}, {0, 32}, {0, Integer.MIN_VALUE}, {0, Integer.MAX_VALUE}, {-1, 7}};
        house.call(0, 3, 3, 0);
        for (int[] w : wrong) {
            Due.is("able(" + w[0] + ", " + w[1] + ")", house, house.able(w[0], w[1]), LineOfHeirs.NONE, 2);
        }
        Due.end("Promise08AbleTest");
    }
}
