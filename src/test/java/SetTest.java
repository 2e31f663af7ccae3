/** Promise 7: set. */
public final class SetTest {
    public static void main(String[] args) {
        Check check = new Check("SetTest");
        BentPins x = new BentPins();
        int[][] wrong = {{-1, 1}, {2, 1}, {0, -1}, {0, 3}, {1, 0}, {1, 10}, {1, -1},
            {Integer.MIN_VALUE, 1}, {Integer.MAX_VALUE, 1}, {0, Integer.MAX_VALUE}, {1, Integer.MIN_VALUE}};
        for (int[] pair : wrong) {
            check.same("set(" + pair[0] + ", " + pair[1] + ")", x.set(pair[0], pair[1]), BentPins.INVALID_ARGUMENT);
        }
        check.same("history", x.count(18), 0);
        check.same("set(TILT, 0)", x.set(BentPins.TILT, 0), 1);
        check.same("set(TILT, 2)", x.set(BentPins.TILT, 2), 0);
        check.same("count(15)", x.count(15), 2);
        check.same("set(FULL, 9)", x.set(BentPins.FULL, 9), 3);
        check.same("set(FULL, 1)", x.set(BentPins.FULL, 1), 9);
        check.same("count(16)", x.count(16), 1);
        check.same("history", x.count(18), 4);
        check.same("set(TILT, 1)", x.set(BentPins.TILT, 1), 2);
        check.same("the same value", x.set(BentPins.TILT, 1), 1);
        x.undo();
        x.undo();
        check.same("undone", x.count(15), 2);
        x.set(BentPins.FULL, 2);
        x.set(BentPins.TILT, 0);
        x.shoot(6, false);
        x.shoot(6, false);
        check.same("full", x.pocket(1, 2), 1);
        x.set(BentPins.FULL, 3);
        check.same("not full then", x.pocket(1, 2), 0);
        x.set(BentPins.FULL, 1);
        check.same("full with more balls than FULL", x.pocket(1, 2), 1);
        check.end();
    }
}
