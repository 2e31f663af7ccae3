/** Promise 15: sign. */
public final class SignTest {
    public static void main(String[] args) {
        Check check = new Check("SignTest");
        BentPins x = new BentPins();
        int[] wrong = {-1, 35, Integer.MIN_VALUE, Integer.MAX_VALUE};
        for (int pin : wrong) {
            check.same("sign(" + pin + ")", x.sign(pin), BentPins.INVALID_ARGUMENT);
        }
        check.same("straight", x.sign(8), '|');
        for (int i = 0; i < 3; i++) {
            x.bend(8, false);
            check.same("bent to the left", x.sign(8), '<');
            x.bend(9, true);
            check.same("bent to the right", x.sign(9), '>');
        }
        x.bell(8);
        x.bell(9);
        x.bell(10);
        check.same("a bell, bent to the left", x.sign(8), 'o');
        check.same("a bell, bent to the right", x.sign(9), 'o');
        check.same("a bell, straight", x.sign(10), 'o');
        x.pull(11);
        check.same("pulled out", x.sign(11), '.');
        x.pull(10);
        check.same("pulled out with its bell", x.sign(10), '.');
        x.pull(10);
        check.same("set again with its bell", x.sign(10), 'o');
        check.same("the first pin", x.sign(0), '|');
        check.same("the last pin", x.sign(34), '|');
        check.end();
    }
}
