/** Promise 20: count. */
public final class CountTest {
    private static final Check check = new Check("CountTest");

    public static void main(String[] args) {
        BentPins x = new BentPins();
        int[] wrong = {-1, 19, Integer.MIN_VALUE, Integer.MAX_VALUE};
        for (int what : wrong) {
            check.same("count(" + what + ")", x.count(what), BentPins.INVALID_ARGUMENT);
        }
        x.set(BentPins.FULL, 2);
        x.bell(3);
        x.bell(28);
        x.pull(34);
        x.bend(6, true);
        x.bend(6, true);
        x.bend(0, false);
        x.shoot(3, true);
        x.shoot(3, true);
        x.shoot(3, false);
        x.bend(34, true);
        x.set(BentPins.TILT, 0);
        x.append('e');
        x.append(',');
        // the three balls ring 6 bells, and two of them go to pocket 0, the third one is lost
        due(x, 0, 2 * 4 + 6);
        due(x, 1, 17);
        due(x, 2, 2);
        due(x, 3, 1);
        due(x, 4, 34);
        due(x, 5, 34 - 2 - 5);
        due(x, 6, 2 + 1 + 10);
        due(x, 7, 2);
        due(x, 8, 1);
        due(x, 9, 2);
        due(x, 10, 3);
        due(x, 11, 2);
        due(x, 12, 6);
        due(x, 13, 10);
        due(x, 14, 1);
        due(x, 15, 0);
        due(x, 16, 2);
        due(x, 17, 2);
        due(x, 18, 4);
        x.empty();
        due(x, 2, 0);
        due(x, 3, 0);
        due(x, 8, 0);
        due(x, 10, 3);
        x.undo();
        due(x, 18, 3);
        check.same("count(9) tells the pockets of reach(0)", x.count(9), Integer.bitCount(x.reach(0)));
        check.end();
    }

    private static void due(BentPins x, int what, int due) {
        check.same("count(" + what + ")", x.count(what), due);
        check.same("count(" + what + ") again", x.count(what), due);
    }
}
