/** Promise 6: worth. */
public final class WorthTest {
    public static void main(String[] args) {
        Check check = new Check("WorthTest");
        BentPins x = new BentPins();
        int[][] wrong = {{-1, 0}, {7, 0}, {0, -1}, {0, 10}, {Integer.MIN_VALUE, 5}, {3, Integer.MAX_VALUE}, {9, 11}};
        for (int[] pair : wrong) {
            check.same("worth(" + pair[0] + ", " + pair[1] + ")", x.worth(pair[0], pair[1]), BentPins.INVALID_ARGUMENT);
        }
        check.same("history", x.count(18), 0);
        for (int pocket = 0; pocket < 7; pocket++) {
            check.same("worth before", x.worth(pocket, 9), Boards.WORTHS_AT_FIRST[pocket]);
            check.same("worth then", x.pocket(pocket, 0), 9);
            check.same("worth before", x.worth(pocket, 0), 9);
        }
        check.same("a ball into a pocket that is worth nothing", x.shoot(3, false), 10);
        x.worth(0, 7);
        check.same("a ball into a pocket with the worth 7", x.shoot(3, false), 17);
        check.same("the worth before", x.worth(0, 1), 7);
        check.same("earlier points stay", x.count(0), 7);
        check.same("the same worth is a change, too", x.worth(0, 1), 1);
        x.undo();
        x.undo();
        check.same("undone", x.pocket(0, 0), 7);
        check.end();
    }
}
