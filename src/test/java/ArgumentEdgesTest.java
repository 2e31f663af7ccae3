/** Each argument of each promise: one below its least value, its least, its greatest, and one above that. */
public final class ArgumentEdgesTest {
    private static final Check check = new Check("ArgumentEdgesTest");

    /** A call, with the argument that is looked at. */
    private interface Call {
        int of(BentPins x, int value);
    }

    public static void main(String[] args) {
        deeds();
        texts();
        looks();
        whatWouldBe();
        whatsOfCount();
        rangesOfSettings();
        wrongInAllArguments();
        check.end();
    }

    private static void range(String promise, String words, int least, int most, Call call) {
        check.sentence("Promise " + promise, words);
        int[] beyond = {least - 1, most + 1, Integer.MIN_VALUE, Integer.MAX_VALUE};
        for (int value : beyond) {
            BentPins x = new BentPins();
            check.same("for " + value, call.of(x, value), BentPins.INVALID_ARGUMENT);
            check.same("for " + value + ", changes", x.count(18), 0);
        }
        for (int value = least; value <= most; value++) {
            int answer = call.of(new BentPins(), value);
            check.holds("for " + value + ", no INVALID_ARGUMENT", answer != BentPins.INVALID_ARGUMENT);
        }
    }

    private static void deeds() {
        range("2", "place: 0 to 6", 0, 6, (x, value) -> x.shoot(value, false));
        range("2", "place: 0 to 6", 0, 6, (x, value) -> x.shoot(value, true));
        range("3", "pin: 0 to 34", 0, 34, (x, value) -> x.bend(value, false));
        range("3", "pin: 0 to 34", 0, 34, (x, value) -> x.bend(value, true));
        range("4", "pin: 0 to 34", 0, 34, BentPins::pull);
        range("5", "pin: 0 to 34", 0, 34, BentPins::bell);
        range("6", "pocket: 0 to 6", 0, 6, (x, value) -> x.worth(value, 9));
        range("6", "worth: 0 to 9", 0, 9, (x, value) -> x.worth(0, value));
        range("6", "worth: 0 to 9", 0, 9, (x, value) -> x.worth(6, value));
        range("7", "what: 0 or 1", 0, 1, (x, value) -> x.set(value, 1));
        range("7", "what: 0 or 1", 0, 1, (x, value) -> x.set(value, 2));
    }

    private static void texts() {
        range("9", "code: the character code, 33 to 126", 33, 126, BentPins::append);
        range("11", "way: 0 if it is read as a board, 1 if it is read as shots", 0, 1, BentPins::fault);
        range("14", "what: 0: the reason; 1: its number among the parts, from 0; 2: the position of its first sign in the "
            + "pad", 0, 2, BentPins::why);
        range("15", "pin: 0 to 34", 0, 34, BentPins::sign);
    }

    private static void looks() {
        range("16", "pin: 0 to 34", 0, 34, (x, value) -> x.pin(value, 0));
        range("16", "pin: 0 to 34", 0, 34, (x, value) -> x.pin(value, 4));
        range("16", "what: 0: its bend, and 3;", 0, 4, (x, value) -> x.pin(0, value));
        range("17", "pocket: 0 to 6", 0, 6, (x, value) -> x.pocket(value, 0));
        range("17", "pocket: 0 to 6", 0, 6, (x, value) -> x.pocket(value, 4));
        range("17", "what: 0: its worth; 1: balls in it;", 0, 4, (x, value) -> x.pocket(6, value));
        range("18", "way: 0: told row by row, from the row 0 on; 1: told pocket by pocket, back from it", 0, 1,
            BentPins::reach);
        range("19", "pocket: 0 to 6", 0, 6, (x, value) -> x.ways(value, 0));
        range("19", "pocket: 0 to 6", 0, 6, (x, value) -> x.ways(value, 1));
        range("19", "way: 0: told row by row; 1: told by going all ways from each place", 0, 1, (x, value) -> x.ways(3, value));
    }

    private static void whatWouldBe() {
        range("22", "place: 0 to 6", 0, 6, BentPins::ends);
        range("23", "place: 0 to 6", 0, 6, (x, value) -> x.ifShot(value, true, 20, 0));
        range("23", "shots: 1 to 20", 1, 20, (x, value) -> x.ifShot(6, false, value, 2));
        range("23", "what: 0: the points; 1: how many balls are lost in them; 2: the pockets that can be reached then, as a "
            + "set", 0, 2, (x, value) -> x.ifShot(0, true, 1, value));
    }

    /** Four balls to the pocket 0, by pins that two hard ones bend: three of the balls are lost. */
    private static void whatsOfCount() {
        range("20", "17: the length of the pad; 18: states in the history", 0, 18, BentPins::count);
        BentPins x = new BentPins();
        x.set(BentPins.FULL, 1);
        x.bell(3);
        x.pull(34);
        x.pull(33);
        x.bend(33, true);
        Boards.bendBy(x, 5, 4);
        Boards.shots(x, "3!,3,3!,3");
        x.set(BentPins.TILT, 2);
        Boards.write(x, "e,e");
        int[] due = {4 + 4, 16, 1, 3, 33, 33 - 6, 3 + 10, 1, 1, 3, 4, 2, 4, 10, 2, 2, 1, 3, 4};
        for (int what = 0; what < due.length; what++) {
            check.same("count(" + what + ")", x.count(what), due[what]);
        }
    }

    private static void rangesOfSettings() {
        range("7", "value: a value in its range", 0, 2, (x, value) -> x.set(BentPins.TILT, value));
        range("7", "value: a value in its range", 1, 9, (x, value) -> x.set(BentPins.FULL, value));
    }

    private static void wrongInAllArguments() {
        check.sentence("Changes and errors", "INVALID_ARGUMENT = -1: An argument is out of its range.");
        BentPins x = new BentPins();
        check.same("worth(-1, 10)", x.worth(-1, 10), -1);
        check.same("set(2, 3)", x.set(2, 3), -1);
        check.same("set(-1, -1)", x.set(-1, -1), -1);
        check.same("pin(35, 5)", x.pin(35, 5), -1);
        check.same("pocket(-1, -1)", x.pocket(-1, -1), -1);
        check.same("ways(7, 2)", x.ways(7, 2), -1);
        check.same("ifShot(-1, false, 0, -1)", x.ifShot(-1, false, 0, -1), -1);
        check.same("ifShot(7, true, 21, 3)", x.ifShot(7, true, 21, 3), -1);
        check.same("changes", x.count(18), 0);
    }
}
