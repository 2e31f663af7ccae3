/** The boundary cases of the promises 1 to 8, of the constants, and of an object's last call. */
public final class DeedEdgesTest {
    private static final Check check = new Check("DeedEdgesTest");

    public static void main(String[] args) {
        lastCall();
        constants();
        levelAndStraight();
        answersOfShots();
        answersOfBends();
        howManyAreOut();
        pinsSetAgain();
        howManyBells();
        bellsWithoutPins();
        worthsBefore();
        valuesBefore();
        ballsLeftThen();
        check.end();
    }

    private static void lastCall() {
        check.sentence("What it is", "An object is used for at most 512 calls after it has been made;");
        BentPins changes = new BentPins();
        for (int call = 1; call <= 511; call++) {
            changes.pull(34);
        }
        check.same("the 512th call, behind 511 changes", changes.undo(), 3);
        BentPins hard = new BentPins();
        for (int call = 1; call <= 510; call++) {
            if (call % 21 == 0) {
                hard.empty();
            } else {
                hard.shoot(call % 7, true);
            }
        }
        check.same("the 511th call, behind 486 hard shots: shots", hard.count(10), 486);
        check.same("the 512th call", hard.count(14), 0);
        BentPins looks = new BentPins();
        for (int call = 1; call <= 511; call++) {
            looks.ifShot(3, true, 20, 2);
        }
        check.same("the 512th call, behind 511 times 20 shots that would be", looks.ways(6, 1), 32);
    }

    private static void constants() {
        check.sentence("Changes and errors", "TILT = 0, FULL = 1: Numbers of the settings.");
        check.same("TILT", BentPins.TILT, 0);
        check.same("FULL", BentPins.FULL, 1);
        check.sentence("Changes and errors", "LIMIT_REACHED = -3: A fixed limit has been reached.");
        check.same("INVALID_ARGUMENT", BentPins.INVALID_ARGUMENT, -1);
        check.same("NOT_POSSIBLE", BentPins.NOT_POSSIBLE, -2);
        check.same("LIMIT_REACHED", BentPins.LIMIT_REACHED, -3);
        check.same("NOT_FOUND", BentPins.NOT_FOUND, -4);
    }

    private static void levelAndStraight() {
        check.sentence("Promise 1", "Creates a level board of straight pins.");
        BentPins x = new BentPins();
        check.same("level", x.count(15), 1);
        check.same("straight ones", x.count(5), 35);
        check.sameText("its signs", Boards.text(x), Boards.STRAIGHT);
    }

    private static void answersOfShots() {
        check.sentence("Promise 2", "Returns 10 and the points that it brings; the reason, 1, if it is refused;");
        BentPins x = Boards.of(Boards.rows("ooooo"));
        x.set(BentPins.TILT, 2);
        x.worth(6, 9);
        check.same("the most points", x.shoot(6, false), 10 + 14);
        x.set(BentPins.FULL, 1);
        check.same("the bells alone", x.shoot(6, false), 10 + 5);
        Boards.board(x, Boards.OPEN);
        check.same("no points", x.shoot(6, true), 10);
        Boards.shootAll(x, 6, false);
        check.same("refused", x.shoot(6, false), 1);
    }

    private static void answersOfBends() {
        check.sentence("Promise 3", "Returns 10, the bend then, and 3; the reason, 2 or 3, if it is refused;");
        BentPins x = new BentPins();
        int[] left = {12, 11, 10, 3, 3};
        for (int due : left) {
            check.same("bend(0, false)", x.bend(0, false), due);
        }
        int[] right = {11, 12, 13, 14, 15, 16, 3, 3};
        for (int due : right) {
            check.same("bend(0, true)", x.bend(0, true), due);
        }
        x.pull(0);
        check.same("bend(0, true), pulled out", x.bend(0, true), 2);
        check.same("bend(0, false), pulled out", x.bend(0, false), 2);
    }

    private static void howManyAreOut() {
        check.sentence("Promise 4", "Returns how many pins are pulled out then;");
        BentPins x = new BentPins();
        for (int pin = 0; pin < 35; pin++) {
            check.same("out", x.pull(pin), pin + 1);
        }
        check.same("pins", x.count(4), 0);
        for (int pin = 34; pin >= 0; pin--) {
            check.same("set", x.pull(pin), pin);
        }
        check.same("pins", x.count(4), 35);
    }

    private static void pinsSetAgain() {
        check.sentence("Promise 4", "(straight, its side left; a bell stays with the pin).");
        int[] pins = {0, 34};
        for (int pin : pins) {
            BentPins x = Boards.onePin(pin, 0);
            x.bell(pin);
            x.shoot(pin % 7, false);
            check.same("its side", x.pin(pin, 2), 1);
            Boards.bendBy(x, pin, 3);
            x.pull(pin);
            x.pull(pin);
            check.same("straight", x.pin(pin, 0), 3);
            check.same("straight ones", x.count(5), 1);
            check.same("its side left", x.pin(pin, 2), 0);
            check.same("its bell", x.pin(pin, 1), 1);
        }
    }

    private static void howManyBells() {
        check.sentence("Promise 5", "Returns how many bells there are then;");
        BentPins x = new BentPins();
        for (int pin = 0; pin < 35; pin++) {
            check.same("given", x.bell(pin), pin + 1);
        }
        for (int pin = 34; pin >= 0; pin--) {
            check.same("taken away", x.bell(pin), pin);
        }
    }

    private static void bellsWithoutPins() {
        check.sentence("Promise 5", "(Without the pin a bell does not ring.)");
        BentPins x = Boards.of(Boards.OPEN);
        x.bell(3);
        check.same("given where the pin is out", x.shoot(3, false), 11);
        x.pull(3);
        check.same("the pin is set: it rings, and the ball goes to 2", x.shoot(3, false), 13);
        x.pull(3);
        check.same("the pin is pulled out again", x.shoot(3, true), 11);
        check.same("rings", x.count(12), 1);
    }

    private static void worthsBefore() {
        check.sentence("Promise 6", "Returns the worth before;");
        BentPins x = new BentPins();
        int[] pockets = {0, 6};
        for (int pocket : pockets) {
            check.same("the first worth", x.worth(pocket, 0), 4);
            check.same("the least worth", x.worth(pocket, 9), 0);
            check.same("the greatest worth", x.worth(pocket, 9), 9);
            check.same("a worth too great", x.worth(pocket, 10), BentPins.INVALID_ARGUMENT);
            check.same("a worth too small", x.worth(pocket, -1), BentPins.INVALID_ARGUMENT);
            check.same("it stays", x.worth(pocket, 1), 9);
        }
    }

    private static void valuesBefore() {
        check.sentence("Promise 7", "Returns the value before;");
        BentPins x = new BentPins();
        int[][] calls = {{0, 0, 1}, {0, 2, 0}, {0, 2, 2}, {1, 9, 3}, {1, 1, 9}, {1, 1, 1}};
        for (int[] call : calls) {
            check.same("set(" + call[0] + ", " + call[1] + ")", x.set(call[0], call[1]), call[2]);
        }
        check.same("a value that is in the range of FULL alone", x.set(BentPins.TILT, 3), BentPins.INVALID_ARGUMENT);
        check.same("a value that is in the range of TILT alone", x.set(BentPins.FULL, 0), BentPins.INVALID_ARGUMENT);
        check.same("TILT then", x.count(15), 2);
        check.same("FULL then", x.count(16), 1);
    }

    private static void ballsLeftThen() {
        check.sentence("Promise 8", "Returns how many balls are left then.");
        BentPins x = Boards.of(Boards.OPEN);
        check.same("nothing was in them", x.empty(), 20);
        x.shoot(6, false);
        check.same("one ball", x.empty(), 20);
        Boards.shootAll(x, 6, false);
        check.same("three balls and 17 lost ones", x.empty(), 20);
        Boards.shootAll(x, 6, false);
        check.same("twenty more", x.count(10), 41);
        x.shoot(6, false);
        check.same("a refused one takes none", x.empty(), 20);
    }
}
