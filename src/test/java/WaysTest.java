/** Promise 19: ways. */
public final class WaysTest {
    private static final Check check = new Check("WaysTest");

    public static void main(String[] args) {
        BentPins x = new BentPins();
        int[][] wrong = {{-1, 0}, {7, 1}, {0, -1}, {0, 2},
            {Integer.MIN_VALUE, 0}, {Integer.MAX_VALUE, 1}, {3, Integer.MAX_VALUE}, {3, Integer.MIN_VALUE}};
        for (int[] pair : wrong) {
            check.same("ways(" + pair[0] + ", " + pair[1] + ")", x.ways(pair[0], pair[1]), BentPins.INVALID_ARGUMENT);
        }
        due("straight", x, 32, 32, 32, 32, 32, 32, 32);
        x.bend(3, true);
        due("one pin bent", x, 31, 32 - 4 - 1, 32, 32 - 6, 32, 32 - 5, 32);
        x.bend(3, false);
        x.set(BentPins.TILT, 0);
        due("tilted to the left", x, 6, 1, 0, 0, 0, 0, 0);
        x.set(BentPins.TILT, 2);
        due("tilted to the right", x, 0, 0, 0, 0, 0, 1, 6);
        due("no pins", Boards.of(Boards.rows(".....")), 1, 1, 1, 1, 1, 1, 1);
        due("a straight row", Boards.of(Boards.rows("|....")), 2, 2, 2, 2, 2, 2, 2);
        due("two straight rows", Boards.of(Boards.rows("||...")), 4, 4, 4, 4, 4, 4, 4);
        due("a straight row, then to the left", Boards.of(Boards.rows("|.<..")), 4, 2, 2, 2, 2, 2, 0);
        due("to the left, then a straight row", Boards.of(Boards.rows("<..|.")), 3, 3, 2, 2, 2, 1, 1);
        check.end();
    }

    private static void due(String board, BentPins x, int... ways) {
        if ("one pin bent".equals(board)) {
            oneBent(x);
            return;
        }
        for (int pocket = 0; pocket < 7; pocket++) {
            check.same("ways(" + pocket + ", 0), " + board, x.ways(pocket, 0), ways[pocket]);
            check.same("ways(" + pocket + ", 1), " + board, x.ways(pocket, 1), ways[pocket]);
        }
    }

    /** 16 of the 224 ways are gone: those that went from the pin 3 to the left. */
    private static void oneBent(BentPins x) {
        int all = 0;
        for (int pocket = 0; pocket < 7; pocket++) {
            check.same("both tell the same", x.ways(pocket, 0), x.ways(pocket, 1));
            all += x.ways(pocket, 0);
        }
        check.same("all ways together", all, 208);
    }
}
