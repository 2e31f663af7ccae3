/** Promise 8: empty. */
public final class EmptyTest {
    public static void main(String[] args) {
        Check check = new Check("EmptyTest");
        BentPins x = new BentPins();
        check.same("empty() of a new object", x.empty(), 20);
        check.same("it is a change", x.count(18), 1);
        x.set(BentPins.FULL, 1);
        x.set(BentPins.TILT, 0);
        x.shoot(6, true);
        x.shoot(6, true);
        x.shoot(0, false);
        check.same("left", x.count(1), 17);
        check.same("lost", x.count(3), 1);
        check.same("in pockets", x.count(2), 2);
        int points = x.count(0);
        check.same("empty()", x.empty(), 20);
        check.same("left", x.count(1), 20);
        check.same("lost", x.count(3), 0);
        check.same("in pockets", x.count(2), 0);
        check.same("full ones", x.count(8), 0);
        check.same("balls in pocket 1", x.pocket(1, 1), 0);
        check.same("balls that ended in pocket 1 so far", x.pocket(1, 3), 2);
        check.same("points stay", x.count(0), points);
        check.same("shots stay", x.count(10), 3);
        check.same("bends stay", x.count(13), 10);
        check.same("undo()", x.undo(), 3);
        check.same("left", x.count(1), 17);
        check.same("lost", x.count(3), 1);
        check.end();
    }
}
