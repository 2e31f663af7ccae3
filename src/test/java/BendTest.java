/** Promise 3: bend. */
public final class BendTest {
    private static final Check check = new Check("BendTest");

    public static void main(String[] args) {
        wrongPins();
        bendsBothWays();
        refusals();
        check.end();
    }

    private static void wrongPins() {
        BentPins x = new BentPins();
        int[] wrong = {-1, 35, Integer.MIN_VALUE, Integer.MAX_VALUE};
        for (int pin : wrong) {
            check.same("bend(" + pin + ", true)", x.bend(pin, true), BentPins.INVALID_ARGUMENT);
            check.same("bend(" + pin + ", false)", x.bend(pin, false), BentPins.INVALID_ARGUMENT);
        }
        check.same("history", x.count(18), 0);
        check.same("refused deeds", x.count(14), 0);
    }

    private static void bendsBothWays() {
        BentPins x = new BentPins();
        for (int pin = 0; pin < 35; pin++) {
            check.same("to the right", x.bend(pin, true), 14);
            check.same("back", x.bend(pin, false), 13);
            check.same("to the left", x.bend(pin, false), 12);
            check.same("its bend", x.pin(pin, 0), 2);
        }
        check.same("bends together", x.count(6), 35);
        check.same("no bends by balls", x.count(13), 0);
        check.same("no refusals", x.count(14), 0);
        check.same("sides stay", x.pin(17, 2), 0);
        x.bell(4);
        check.same("a bell stays", x.bend(4, true), 13);
        check.same("a bell stays", x.pin(4, 1), 1);
    }

    private static void refusals() {
        BentPins x = new BentPins();
        x.bend(34, true);
        x.bend(34, true);
        check.same("to 3", x.bend(34, true), 16);
        check.same("beyond 3", x.bend(34, true), 3);
        check.same("its bend", x.pin(34, 0), 6);
        check.same("back from 3", x.bend(34, false), 15);
        x.bend(0, false);
        x.bend(0, false);
        check.same("to -3", x.bend(0, false), 10);
        check.same("below -3", x.bend(0, false), 3);
        check.same("its bend", x.pin(0, 0), 0);
        x.pull(7);
        check.same("pulled out", x.bend(7, true), 2);
        check.same("pulled out", x.bend(7, false), 2);
        check.same("refused deeds", x.count(14), 4);
        check.same("a refused bend is a change", x.undo(), 3);
        check.same("refused deeds then", x.count(14), 3);
        check.same("the pin is straight when set", x.pull(7), 0);
        check.same("the pin is straight when set", x.pin(7, 0), 3);
        BentPins y = new BentPins();
        y.bend(5, true);
        y.bend(5, true);
        y.bend(5, true);
        y.pull(5);
        check.same("reason 2 is looked at first", y.bend(5, true), 2);
    }
}
