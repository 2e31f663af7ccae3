/** Promise 1: a level board of straight pins. */
public final class NewObjectTest {
    public static void main(String[] args) {
        Check check = new Check("NewObjectTest");
        BentPins x = new BentPins();
        for (int pin = 0; pin < 35; pin++) {
            check.same("sign(" + pin + ")", x.sign(pin), '|');
            check.same("pin(" + pin + ", 0)", x.pin(pin, 0), 3);
            check.same("pin(" + pin + ", 1)", x.pin(pin, 1), 0);
            check.same("pin(" + pin + ", 2)", x.pin(pin, 2), 0);
            check.same("pin(" + pin + ", 3)", x.pin(pin, 3), 0);
            check.same("pin(" + pin + ", 4)", x.pin(pin, 4), 1);
        }
        for (int pocket = 0; pocket < 7; pocket++) {
            check.same("pocket(" + pocket + ", 0)", x.pocket(pocket, 0), Boards.WORTHS_AT_FIRST[pocket]);
            for (int what = 1; what <= 3; what++) {
                check.same("pocket(" + pocket + ", " + what + ")", x.pocket(pocket, what), 0);
            }
        }
        int[] counts = {0, 20, 0, 0, 35, 35, 0, 0, 0, 7, 0, 0, 0, 0, 0, 1, 3, 0, 0};
        for (int what = 0; what < counts.length; what++) {
            check.same("count(" + what + ")", x.count(what), counts[what]);
        }
        check.sameDouble("mean()", x.mean(), 0.0);
        check.same("reach(0)", x.reach(0), 127);
        check.same("undo()", x.undo(), BentPins.NOT_POSSIBLE);
        check.same("restore()", x.restore(), BentPins.NOT_POSSIBLE);
        check.same("why(0)", x.why(0), BentPins.NOT_FOUND);
        twoObjectsShareNothing(check);
        check.end();
    }

    private static void twoObjectsShareNothing(Check check) {
        BentPins one = new BentPins();
        BentPins other = new BentPins();
        String before = Boards.state(other);
        one.shoot(3, true);
        one.pull(9);
        one.worth(2, 9);
        one.append('e');
        check.holds("another object is untouched", before.equals(Boards.state(other)));
        check.same("count(17) of another object", other.count(17), 0);
        check.same("count(18) of another object", other.count(18), 0);
    }
}
