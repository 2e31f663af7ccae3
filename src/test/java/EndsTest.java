/** Promise 22: ends. */
public final class EndsTest {
    public static void main(String[] args) {
        Check check = new Check("EndsTest");
        BentPins x = new BentPins();
        int[] wrong = {-1, 7, Integer.MIN_VALUE, Integer.MAX_VALUE};
        for (int place : wrong) {
            check.same("ends(" + place + ")", x.ends(place), BentPins.INVALID_ARGUMENT);
        }
        int[] ends = {0, 0, 0, 0, 0, 0, 1};
        String before = Boards.state(x);
        for (int place = 0; place < 7; place++) {
            check.same("ends(" + place + ")", x.ends(place), ends[place]);
        }
        check.holds("nothing is changed", before.equals(Boards.state(x)));
        check.same("history", x.count(18), 0);
        x.shoot(3, false);
        x.shoot(3, false);
        check.same("by the other sides", x.ends(3), 2);
        check.same("asked again", x.ends(3), 2);
        x.shoot(3, false);
        check.same("and then", x.ends(3), 4);
        x.set(BentPins.TILT, 2);
        check.same("tilted to the right", x.ends(0), 5);
        x.set(BentPins.TILT, 0);
        check.same("tilted to the left", x.ends(6), 1);
        Boards.shootAll(x, 6, false);
        check.same("no balls left", x.count(1), 0);
        check.same("a full pocket, no balls", x.ends(6), 1);
        BentPins y = Boards.of(Boards.rows("><.>>"));
        check.same("right, left, down, right, right", y.ends(2), 4);
        check.same("by the rim", y.ends(6), 6);
        check.end();
    }
}
