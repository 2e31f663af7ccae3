/** Promise 2: shoot. */
public final class ShootTest {
    private static final Check check = new Check("ShootTest");

    public static void main(String[] args) {
        wrongPlaces();
        straightPinsTakeTurns();
        tiltedBoards();
        bentPinsSendOneWay();
        rims();
        pulledPins();
        hardBallsBend();
        softBallsDoNot();
        bendsEndAtThree();
        bells();
        fullPockets();
        refusals();
        check.end();
    }

    private static void wrongPlaces() {
        BentPins x = new BentPins();
        String before = Boards.state(x);
        int[] wrong = {-1, 7, Integer.MIN_VALUE, Integer.MAX_VALUE};
        for (int place : wrong) {
            check.same("shoot(" + place + ", false)", x.shoot(place, false), BentPins.INVALID_ARGUMENT);
            check.same("shoot(" + place + ", true)", x.shoot(place, true), BentPins.INVALID_ARGUMENT);
        }
        check.holds("wrong places change nothing", before.equals(Boards.state(x)));
        check.same("history after wrong places", x.count(18), 0);
        Boards.shootAll(x, 3, false);
        check.same("shoot(7) without balls", x.shoot(7, false), BentPins.INVALID_ARGUMENT);
        check.same("count(14)", x.count(14), 0);
    }

    private static void straightPinsTakeTurns() {
        BentPins x = new BentPins();
        check.same("first ball from 3, pocket 0", x.shoot(3, false), 14);
        check.same("pocket(0, 1)", x.pocket(0, 1), 1);
        check.same("side of pin 3 turned", x.pin(3, 2), 1);
        check.same("side of pin 9 turned", x.pin(9, 2), 1);
        check.same("side of pin 10 did not", x.pin(10, 2), 0);
        check.same("second ball, right, and then by fresh pins to 0", x.shoot(3, false), 14);
        check.same("side of pin 3 turned back", x.pin(3, 2), 0);
        check.same("third ball, left, right, right, left, left", x.shoot(3, false), 12);
        check.same("pocket(2, 1)", x.pocket(2, 1), 1);
        check.same("fourth ball, right, right, left, right, left", x.shoot(3, false), 12);
        check.same("pocket(4, 1)", x.pocket(4, 1), 1);
        check.same("points", x.count(0), 12);
        check.same("balls left", x.count(1), 16);
        check.same("shots", x.count(10), 4);
        check.same("hard ones", x.count(11), 0);
    }

    private static void tiltedBoards() {
        BentPins x = new BentPins();
        x.set(BentPins.TILT, 2);
        check.same("tilted to the right, 1 to 6", x.shoot(1, false), 14);
        check.same("pocket(6, 1)", x.pocket(6, 1), 1);
        check.same("no side turns on a tilted board", x.pin(1, 2), 0);
        check.same("the same again", x.shoot(1, false), 14);
        x.set(BentPins.TILT, 0);
        check.same("tilted to the left, 6 to 1", x.shoot(6, false), 13);
        check.same("pocket(1, 1)", x.pocket(1, 1), 1);
        check.same("side of pin 6", x.pin(6, 2), 0);
        BentPins y = Boards.of(Boards.rows(">><<>"));
        y.set(BentPins.TILT, 0);
        check.same("bent pins do not heed the tilt", y.ends(3), 4);
        y.shoot(3, false);
        check.same("pocket(4, 1)", y.pocket(4, 1), 1);
    }

    private static void bentPinsSendOneWay() {
        BentPins x = Boards.of(Boards.rows("<<>><"));
        for (int i = 0; i < 3; i++) {
            check.same("left, left, right, right, left from 3", x.shoot(3, false), 12);
        }
        check.same("pocket(2, 1)", x.pocket(2, 1), 3);
        check.same("sides stay", x.pin(3, 2), 0);
    }

    private static void rims() {
        BentPins x = Boards.of(Boards.rows("<<<<<"));
        check.same("left rim", x.shoot(0, false), 14);
        check.same("pocket(0, 1)", x.pocket(0, 1), 1);
        for (int row = 0; row < 5; row++) {
            check.same("came to pin " + 7 * row, x.pin(7 * row, 3), 1);
        }
        BentPins y = Boards.of(Boards.rows(">>>>>"));
        check.same("right rim", y.shoot(6, true), 14);
        check.same("pocket(6, 1)", y.pocket(6, 1), 1);
        for (int row = 0; row < 5; row++) {
            check.same("a rim pin bends, too", y.pin(7 * row + 6, 0), 5);
        }
        check.same("bends by the rim", y.count(13), 5);
    }

    private static void pulledPins() {
        BentPins x = Boards.of(Boards.rows("....."));
        for (int place = 0; place < 7; place++) {
            check.same("straight down from " + place, x.shoot(place, true), 10 + Boards.WORTHS_AT_FIRST[place]);
            check.same("pocket(" + place + ", 1)", x.pocket(place, 1), 1);
            check.same("came to the place " + (28 + place), x.pin(28 + place, 3), 1);
        }
        check.same("nothing bends", x.count(13), 0);
        check.same("set again, straight", x.pull(3), 34);
        check.same("bend", x.pin(3, 0), 3);
        check.same("side", x.pin(3, 2), 0);
    }

    private static void hardBallsBend() {
        BentPins x = new BentPins();
        check.same("hard from 3", x.shoot(3, true), 14);
        int[] met = {3, 9, 15, 21, 28};
        for (int pin : met) {
            check.same("bent to the left: " + pin, x.pin(pin, 0), 2);
            check.same("its side turned: " + pin, x.pin(pin, 2), 1);
        }
        check.same("bends by hard balls", x.count(13), 5);
        check.same("bends together", x.count(6), 5);
        check.same("hard shots", x.count(11), 1);
        check.same("shots", x.count(10), 1);
        check.same("the same way again", x.shoot(3, false), 14);
        check.same("a pin that is bent does not turn", x.pin(3, 2), 1);
        x.set(BentPins.TILT, 2);
        check.same("hard from 6, to the right", x.shoot(6, true), 14);
        check.same("bent to the right", x.pin(6, 0), 4);
    }

    private static void softBallsDoNot() {
        BentPins x = new BentPins();
        Boards.shootAll(x, 3, false);
        check.same("no bends by soft balls", x.count(13), 0);
        check.same("bends together", x.count(6), 0);
        check.same("straight ones", x.count(5), 35);
    }

    private static void bendsEndAtThree() {
        BentPins x = Boards.of(Boards.rows("<<<<<"));
        for (int i = 0; i < 5; i++) {
            x.shoot(0, true);
        }
        check.same("bend of pin 0", x.pin(0, 0), 0);
        check.same("bend of pin 28", x.pin(28, 0), 0);
        check.same("bends that became others", x.count(13), 10);
        BentPins y = Boards.of(Boards.rows(">>>>>"));
        for (int i = 0; i < 5; i++) {
            y.shoot(6, true);
        }
        check.same("bend of pin 6", y.pin(6, 0), 6);
        check.same("bends that became others", y.count(13), 10);
    }

    private static void bells() {
        BentPins x = Boards.of(Boards.with(Boards.with(Boards.STRAIGHT, 3, 'o'), 28, 'o'));
        check.same("two bells on the way", x.shoot(3, false), 16);
        check.same("rings", x.count(12), 2);
        check.same("one bell, and pocket 0", x.shoot(3, false), 15);
        check.same("rings", x.count(12), 3);
        x.pull(3);
        check.same("without its pin a bell does not ring: that of 28, and pocket 1", x.shoot(3, false), 14);
        check.same("rings", x.count(12), 4);
        x.pull(3);
        check.same("with the pin set again it does, and pocket 2", x.shoot(3, false), 13);
        check.same("rings", x.count(12), 5);
    }

    private static void fullPockets() {
        BentPins x = Boards.of(Boards.with(Boards.rows("....."), 2, 'o'));
        x.pull(2);
        x.set(BentPins.FULL, 2);
        check.same("first", x.shoot(2, false), 12);
        check.same("second", x.shoot(2, false), 12);
        check.same("full", x.pocket(2, 2), 1);
        check.same("lost", x.shoot(2, false), 10);
        check.same("lost ones", x.count(3), 1);
        check.same("in the pocket", x.pocket(2, 1), 2);
        check.same("ended there", x.pocket(2, 3), 3);
        check.same("left", x.count(1), 17);
        BentPins y = Boards.of(Boards.with(Boards.rows("<|||<").replace('|', '.'), 0, 'o'));
        y.set(BentPins.FULL, 1);
        check.same("with a bell", y.shoot(0, false), 15);
        check.same("lost, the bell alone", y.shoot(1, false), 10);
        y.set(BentPins.TILT, 0);
        check.same("lost, the bell alone", y.shoot(0, false), 11);
        check.same("points", y.count(0), 6);
        y.set(BentPins.FULL, 9);
        check.same("no longer full", y.shoot(1, false), 14);
    }

    private static void refusals() {
        BentPins x = new BentPins();
        Boards.shootAll(x, 2, false);
        check.same("no balls left", x.count(1), 0);
        check.same("refused", x.shoot(2, false), 1);
        check.same("refused, hard", x.shoot(0, true), 1);
        check.same("refused deeds", x.count(14), 2);
        check.same("shots", x.count(10), 20);
        check.same("came to pin 0", x.pin(0, 3), 0);
        check.same("a refused shot is a change", x.undo(), 3);
        check.same("refused deeds then", x.count(14), 1);
        x.empty();
        check.holds("a shot again", x.shoot(2, false) >= 10);
    }
}
