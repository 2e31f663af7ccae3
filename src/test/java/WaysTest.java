/** Promise 19: ways. */
public final class WaysTest {
    private static final Check check = new Check("WaysTest");

    public static void main(String[] args) {
        BentPins x = new BentPins();
        int[][] wrong = {{-1, 0}, {7, 1}, {0, -1}, {0, 2},
            {Integer.MIN_VALUE, 0}, {Integer.MAX_VALUE, 1}, {3, Integer.MAX_VALUE}, {3, Integer.MIN_VALUE}};
        for (int[] pair : wrong) {
            check.same("ways(" + pair[0] + ", " + pair[1] + ")", x.ways(pair[0], pair[1]), BentPins.INVALID_ARGUMENT);
        }
        due("straight", x, 32, 32, 32, 32, 32, 32, 32);
        x.bend(3, true);
        due("one pin bent to the right, without its 16 ways to the left", x, 28, 31, 26, 32, 28, 32, 31);
        x.bend(3, false);
        x.set(BentPins.TILT, 0);
        due("tilted to the left", x, 6, 1, 0, 0, 0, 0, 0);
        x.set(BentPins.TILT, 2);
        due("tilted to the right", x, 0, 0, 0, 0, 0, 1, 6);
        due("no pins", Boards.of(Boards.rows(".....")), 1, 1, 1, 1, 1, 1, 1);
        due("a straight row", Boards.of(Boards.rows("|....")), 2, 2, 2, 2, 2, 2, 2);
        due("two straight rows", Boards.of(Boards.rows("||...")), 4, 4, 4, 4, 4, 4, 4);
        due("a straight row, then to the left", Boards.of(Boards.rows("|.<..")), 4, 2, 2, 2, 2, 2, 0);
        due("to the left, then a straight row", Boards.of(Boards.rows("<..|.")), 3, 3, 2, 2, 2, 1, 1);
        check.end();
    }

    private static void due(String board, BentPins x, int... ways) {
        for (int pocket = 0; pocket < 7; pocket++) {
            check.same("ways(" + pocket + ", 0), " + board, x.ways(pocket, 0), ways[pocket]);
            check.same("ways(" + pocket + ", 1), " + board, x.ways(pocket, 1), ways[pocket]);
        }
    }
}
