/** Promise 4: pull. */
public final class PullTest {
    public static void main(String[] args) {
        Check check = new Check("PullTest");
        BentPins x = new BentPins();
        int[] wrong = {-1, 35, Integer.MIN_VALUE, Integer.MAX_VALUE};
        for (int pin : wrong) {
            check.same("pull(" + pin + ")", x.pull(pin), BentPins.INVALID_ARGUMENT);
        }
        check.same("history", x.count(18), 0);
        x.bell(0);
        x.shoot(0, true);
        check.same("side turned", x.pin(0, 2), 1);
        check.same("bent", x.pin(0, 0), 2);
        check.same("pull(0)", x.pull(0), 1);
        check.same("no bend", x.pin(0, 0), BentPins.NOT_FOUND);
        check.same("no side", x.pin(0, 2), BentPins.NOT_FOUND);
        check.same("its bend does not count", x.count(6), 4);
        check.same("it is not a straight one", x.count(5), 30);
        check.same("pull(34)", x.pull(34), 2);
        check.same("pins", x.count(4), 33);
        check.same("set again", x.pull(0), 1);
        check.same("straight", x.pin(0, 0), 3);
        check.same("side left", x.pin(0, 2), 0);
        check.same("the bell stayed", x.pin(0, 1), 1);
        check.same("straight ones", x.count(5), 30);
        check.same("pull(34)", x.pull(34), 0);
        check.same("pins", x.count(4), 35);
        for (int pin = 0; pin < 35; pin++) {
            check.same("pull(" + pin + ")", x.pull(pin), pin + 1);
        }
        check.same("pins", x.count(4), 0);
        check.same("history", x.count(18), 4);
        check.end();
    }
}
