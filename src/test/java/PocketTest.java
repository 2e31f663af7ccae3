/** Promise 17: pocket. */
public final class PocketTest {
    private static final Check check = new Check("PocketTest");

    public static void main(String[] args) {
        wrongArguments();
        balls();
        starts();
        check.end();
    }

    private static void wrongArguments() {
        BentPins x = new BentPins();
        int[][] wrong = {{-1, 0}, {7, 0}, {0, -1}, {0, 5},
            {Integer.MIN_VALUE, 4}, {Integer.MAX_VALUE, 4}, {4, Integer.MAX_VALUE}, {4, Integer.MIN_VALUE}};
        for (int[] pair : wrong) {
            check.same("pocket(" + pair[0] + ", " + pair[1] + ")", x.pocket(pair[0], pair[1]), BentPins.INVALID_ARGUMENT);
        }
    }

    private static void balls() {
        BentPins x = Boards.of(Boards.rows("....."));
        for (int i = 1; i <= 4; i++) {
            x.shoot(5, false);
            check.same("pocket(5, 1)", x.pocket(5, 1), Math.min(i, 3));
            check.same("pocket(5, 2)", x.pocket(5, 2), i >= 3 ? 1 : 0);
            check.same("pocket(5, 3)", x.pocket(5, 3), i);
            check.same("pocket(4, 1)", x.pocket(4, 1), 0);
        }
        x.set(BentPins.FULL, 4);
        check.same("pocket(5, 2)", x.pocket(5, 2), 0);
        x.set(BentPins.FULL, 2);
        check.same("pocket(5, 2)", x.pocket(5, 2), 1);
        check.same("pocket(5, 1)", x.pocket(5, 1), 3);
    }

    private static void starts() {
        BentPins x = Boards.of(Boards.rows("<<<<<"));
        int[] left = {6, 1, 0, 0, 0, 0, 0};
        for (int pocket = 0; pocket < 7; pocket++) {
            check.same("pocket(" + pocket + ", 4)", x.pocket(pocket, 4), left[pocket]);
        }
        Boards.board(x, Boards.rows("....."));
        for (int pocket = 0; pocket < 7; pocket++) {
            check.same("pocket(" + pocket + ", 4)", x.pocket(pocket, 4), 1);
        }
        Boards.board(x, Boards.rows("|...."));
        int[] straight = {2, 2, 2, 2, 2, 2, 2};
        for (int pocket = 0; pocket < 7; pocket++) {
            check.same("pocket(" + pocket + ", 4)", x.pocket(pocket, 4), straight[pocket]);
        }
        x.set(BentPins.TILT, 2);
        int[] tilted = {0, 1, 1, 1, 1, 1, 2};
        for (int pocket = 0; pocket < 7; pocket++) {
            check.same("pocket(" + pocket + ", 4)", x.pocket(pocket, 4), tilted[pocket]);
        }
        Boards.shootAll(x, 6, false);
        check.same("full pockets and balls do not matter", x.pocket(6, 4), 2);
    }
}
