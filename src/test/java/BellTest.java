/** Promise 5: bell. */
public final class BellTest {
    public static void main(String[] args) {
        Check check = new Check("BellTest");
        BentPins x = new BentPins();
        int[] wrong = {-1, 35, Integer.MIN_VALUE, Integer.MAX_VALUE};
        for (int pin : wrong) {
            check.same("bell(" + pin + ")", x.bell(pin), BentPins.INVALID_ARGUMENT);
        }
        check.same("history", x.count(18), 0);
        check.same("bell(3)", x.bell(3), 1);
        check.same("bell(34)", x.bell(34), 2);
        check.same("pin(3, 1)", x.pin(3, 1), 1);
        check.same("count(7)", x.count(7), 2);
        check.same("bell(3) again", x.bell(3), 1);
        check.same("pin(3, 1)", x.pin(3, 1), 0);
        x.pull(3);
        check.same("a bell where the pin is out", x.bell(3), 2);
        check.same("it does not ring, and the ball goes down, then left to 0", x.shoot(3, false), 14);
        check.same("no rings", x.count(12), 0);
        x.pull(3);
        check.same("it rings on the pin, and the ball goes to 1", x.shoot(3, false), 14);
        check.same("rings", x.count(12), 1);
        for (int pin = 4; pin < 34; pin++) {
            check.same("bell(" + pin + ")", x.bell(pin), pin - 1);
        }
        x.undo();
        check.same("undone", x.count(7), 31);
        check.end();
    }
}
