/** The boundary cases under the heading 'Pins', sentence by sentence. */
public final class PinEdgesTest {
    private static final Check check = new Check("PinEdgesTest");
    private static final int[] SOME_PINS = {0, 6, 17, 28, 34};
    private static final int LEVEL = 1;

    public static void main(String[] args) {
        numbersOfPins();
        leastAndGreatestBend();
        noBellsAtFirst();
        sidesAtFirst();
        behindTheLastRow();
        placesWithoutPins();
        leastBendToTheLeft();
        leastBendToTheRight();
        bendZeroOnTiltedBoards();
        sidesTakeTurns();
        sidesThatDoNotTurn();
        rimsByBend();
        rimsByTiltAndSide();
        besideTheRims();
        hardBallsBendByOne();
        hardBallsBendNoFurther();
        hardBallsBendByTheRim();
        bendsThatCount();
        bellsRing();
        check.end();
    }

    private static void sentence(String words) {
        check.sentence("Pins", words);
    }

    /** Shoots, and looks at the pocket in which the ball ended: no other one has a ball more. */
    private static void ends(String what, BentPins x, int place, boolean hard, int pocket) {
        int before = x.pocket(pocket, 3);
        check.same("ends(" + place + "), " + what, x.ends(place), pocket);
        check.holds("a shot to " + place + " is not refused, " + what, x.shoot(place, hard) >= 10);
        check.same("balls that ended in " + pocket + ", " + what, x.pocket(pocket, 3), before + 1);
    }

    private static void numbersOfPins() {
        sentence("The board has 5 rows, 0 (at the top) to 4, with 7 places each, 0 to 6; the pin in the row r at the "
            + "place c has the number 7 * r + c (0 to 34).");
        for (int place = 0; place < 7; place++) {
            BentPins x = Boards.of(Boards.OPEN);
            x.shoot(place, false);
            for (int pin = 0; pin < 35; pin++) {
                check.same("balls that came to " + pin, x.pin(pin, 3), pin % 7 == place ? 1 : 0);
            }
        }
    }

    private static void leastAndGreatestBend() {
        sentence("A pin has a bend, -3 to 3 (0 at first), or is pulled out;");
        for (int pin : SOME_PINS) {
            BentPins x = new BentPins();
            check.same("bend of " + pin + " at first, and 3", x.pin(pin, 0), 3);
            Boards.bendBy(x, pin, -3);
            check.same("least bend of " + pin + ", and 3", x.pin(pin, 0), 0);
            Boards.bendBy(x, pin, -1);
            check.same("one less", x.pin(pin, 0), 0);
            Boards.bendBy(x, pin, 6);
            check.same("greatest bend of " + pin + ", and 3", x.pin(pin, 0), 6);
            Boards.bendBy(x, pin, 1);
            check.same("one more", x.pin(pin, 0), 6);
            x.pull(pin);
            check.same("no bend", x.pin(pin, 0), BentPins.NOT_FOUND);
        }
    }

    private static void noBellsAtFirst() {
        sentence("it has a bell, or none (as at first);");
        BentPins x = new BentPins();
        for (int pin = 0; pin < 35; pin++) {
            check.same("bell of " + pin + " at first", x.pin(pin, 1), 0);
            check.same("bells", x.bell(pin), 1);
            check.same("bell of " + pin, x.pin(pin, 1), 1);
            check.same("bells", x.bell(pin), 0);
            check.same("no bell of " + pin + " again", x.pin(pin, 1), 0);
        }
    }

    private static void sidesAtFirst() {
        sentence("and it has a side to which it sends the next ball, if it is straight and the board is level: "
            + "left at first.");
        for (int pin = 0; pin < 35; pin++) {
            BentPins x = Boards.onePin(pin, 0);
            int place = pin % 7;
            check.same("side of " + pin, x.pin(pin, 2), 0);
            ends("the first ball by the pin " + pin, x, place, false, place == 0 ? 0 : place - 1);
        }
    }

    private static void behindTheLastRow() {
        sentence("from each row it goes to the next one, from the row 4 to a pocket, 0 to 6.");
        for (int place = 0; place < 7; place++) {
            BentPins x = Boards.of(Boards.OPEN);
            x.shoot(place, true);
            for (int pocket = 0; pocket < 7; pocket++) {
                check.same("balls in the pocket " + pocket, x.pocket(pocket, 1), pocket == place ? 1 : 0);
            }
        }
    }

    private static void placesWithoutPins() {
        sentence("At a place whose pin is pulled out it goes straight down, to the same place.");
        for (int tilt = 0; tilt <= 2; tilt++) {
            BentPins x = Boards.of(Boards.OPEN);
            x.set(BentPins.TILT, tilt);
            for (int place = 0; place < 7; place++) {
                ends("no pins, tilt " + tilt, x, place, place % 2 == 0, place);
            }
        }
        for (int bend = -3; bend <= 3; bend += 6) {
            for (int place = 0; place < 7; place++) {
                BentPins x = Boards.onePin(14 + place, bend);
                x.pull(14 + place);
                ends("a bent pin, pulled out", x, place, true, place);
            }
        }
    }

    private static void leastBendToTheLeft() {
        sentence("A pin sends it to the left, to the place that is 1 less, if its bend is below 0;");
        for (int bend = -3; bend <= -1; bend++) {
            for (int tilt = 0; tilt <= 2; tilt++) {
                BentPins x = Boards.onePin(10, bend);
                x.set(BentPins.TILT, tilt);
                ends("bend " + bend + ", tilt " + tilt, x, 3, false, 2);
                ends("bend " + bend + ", tilt " + tilt + ", again", x, 3, false, 2);
            }
        }
    }

    private static void leastBendToTheRight() {
        sentence("to the right, to the place that is 1 more, if its bend is above 0.");
        for (int bend = 1; bend <= 3; bend++) {
            for (int tilt = 0; tilt <= 2; tilt++) {
                BentPins x = Boards.onePin(24, bend);
                x.set(BentPins.TILT, tilt);
                ends("bend " + bend + ", tilt " + tilt, x, 3, false, 4);
                ends("bend " + bend + ", tilt " + tilt + ", again", x, 3, false, 4);
            }
        }
    }

    private static void bendZeroOnTiltedBoards() {
        sentence("With the bend 0 it sends it to the left, if the board is tilted to the left, to the right, if it is "
            + "tilted to the right;");
        for (int side = 0; side <= 1; side++) {
            BentPins x = Boards.onePin(3, 0);
            if (side == 1) {
                x.shoot(3, false);
            }
            for (int i = 0; i < 3; i++) {
                x.set(BentPins.TILT, 0);
                ends("tilted to the left, side " + side, x, 3, false, 2);
                x.set(BentPins.TILT, 2);
                ends("tilted to the right, side " + side, x, 3, false, 4);
            }
            check.same("the side stays on a tilted board", x.pin(3, 2), side);
        }
    }

    private static void sidesTakeTurns() {
        sentence("if the board is level, to its side, which becomes the other one then.");
        int[] places = {0, 3, 6};
        int[] lefts = {0, 2, 5};
        int[] rights = {1, 4, 6};
        for (int i = 0; i < places.length; i++) {
            for (int row = 0; row < 5; row++) {
                int pin = 7 * row + places[i];
                BentPins x = Boards.onePin(pin, 0);
                ends("first ball by " + pin, x, places[i], false, lefts[i]);
                check.same("side then", x.pin(pin, 2), 1);
                ends("second ball by " + pin, x, places[i], false, rights[i]);
                check.same("side then", x.pin(pin, 2), 0);
                ends("third ball by " + pin, x, places[i], false, lefts[i]);
            }
        }
    }

    private static void sidesThatDoNotTurn() {
        BentPins x = new BentPins();
        x.shoot(0, false);
        for (int pin = 0; pin < 35; pin++) {
            check.same("only the sides of pins that a ball comes to turn: " + pin, x.pin(pin, 2), pin % 7 == 0 ? 1 : 0);
        }
        BentPins bent = Boards.onePin(3, 1);
        bent.shoot(3, false);
        check.same("a bent pin does not turn", bent.pin(3, 2), 0);
        BentPins hard = Boards.onePin(3, 0);
        ends("a hard ball", hard, 3, true, 2);
        check.same("a hard ball turns the side, too", hard.pin(3, 2), 1);
        ends("bent by it", hard, 3, false, 2);
        check.same("a bent pin does not turn", hard.pin(3, 2), 1);
        hard.bend(3, true);
        ends("straight again", hard, 3, false, 4);
        check.same("it turns again", hard.pin(3, 2), 0);
    }

    private static void rimsByBend() {
        sentence("At the places 0 and 6 a ball that would go off the board stays at its place.");
        for (int row = 0; row < 5; row++) {
            BentPins left = Boards.onePin(7 * row, -1);
            ends("the left rim, row " + row, left, 0, false, 0);
            BentPins right = Boards.onePin(7 * row + 6, 1);
            ends("the right rim, row " + row, right, 6, false, 6);
            for (int pin = 0; pin < 35; pin++) {
                check.same("no ball comes round, pin " + pin, left.pin(pin, 3), pin % 7 == 0 ? 1 : 0);
                check.same("no ball comes round, pin " + pin, right.pin(pin, 3), pin % 7 == 6 ? 1 : 0);
            }
        }
        ends("five times at the left rim", Boards.of(Boards.rows("<<<<<")), 0, true, 0);
        ends("five times at the right rim", Boards.of(Boards.rows(">>>>>")), 6, true, 6);
    }

    private static void rimsByTiltAndSide() {
        BentPins x = new BentPins();
        x.set(BentPins.TILT, 0);
        ends("tilted to the left", x, 0, false, 0);
        x.set(BentPins.TILT, 2);
        ends("tilted to the right", x, 6, false, 6);
        x.set(BentPins.TILT, LEVEL);
        ends("by the sides, all left", x, 0, false, 0);
        BentPins y = Boards.onePin(20, 0);
        y.shoot(6, false);
        ends("by its side, right", y, 6, false, 6);
    }

    private static void besideTheRims() {
        ends("from 0 to the right", Boards.onePin(0, 1), 0, false, 1);
        ends("from 1 to the left", Boards.onePin(1, -1), 1, false, 0);
        ends("from 5 to the right", Boards.onePin(33, 1), 5, false, 6);
        ends("from 6 to the left", Boards.onePin(34, -1), 6, false, 5);
    }

    private static void hardBallsBendByOne() {
        sentence("A hard ball makes the bend of each pin that sends it 1 less, if it was sent to the left, and 1 more, "
            + "if it was sent to the right,");
        for (int bend = -2; bend <= 2; bend++) {
            BentPins x = Boards.onePin(17, bend);
            x.shoot(3, false);
            check.same("a soft ball at the bend " + bend, x.pin(17, 0), 3 + bend);
            BentPins y = Boards.onePin(17, bend);
            y.shoot(3, true);
            check.same("a hard ball at the bend " + bend, y.pin(17, 0), bend > 0 ? 4 + bend : 2 + bend);
        }
        BentPins x = Boards.onePin(17, 0);
        x.shoot(3, false);
        x.shoot(3, true);
        check.same("straight, its side right", x.pin(17, 0), 4);
        for (int tilt = 0; tilt <= 2; tilt += 2) {
            BentPins tilted = Boards.onePin(17, 0);
            tilted.set(BentPins.TILT, tilt);
            tilted.shoot(3, true);
            check.same("straight, the tilt " + tilt, tilted.pin(17, 0), 2 + tilt);
            check.same("no other bends", tilted.count(6), 1);
        }
    }

    private static void hardBallsBendNoFurther() {
        sentence("but never below -3 or above 3.");
        for (int bend = -3; bend <= 3; bend += 6) {
            for (int pin : SOME_PINS) {
                BentPins x = Boards.onePin(pin, bend);
                for (int i = 0; i < 3; i++) {
                    x.shoot(pin % 7, true);
                    check.same("the bend " + bend + " of " + pin + ", and 3", x.pin(pin, 0), 3 + bend);
                }
                check.same("the bends together", x.count(6), 3);
            }
            BentPins y = Boards.onePin(17, bend - bend / 3);
            y.shoot(3, true);
            y.shoot(3, true);
            check.same("from one less to " + bend + ", and not beyond", y.pin(17, 0), 3 + bend);
        }
    }

    private static void hardBallsBendByTheRim() {
        sentence("(Also where it stays at its place by the rim.");
        for (int row = 0; row < 5; row++) {
            BentPins left = Boards.onePin(7 * row, 0);
            ends("the left rim", left, 0, true, 0);
            check.same("bent by the left rim", left.pin(7 * row, 0), 2);
            BentPins right = Boards.onePin(7 * row + 6, 1);
            ends("the right rim", right, 6, true, 6);
            check.same("bent by the right rim", right.pin(7 * row + 6, 0), 5);
            check.same("counted", left.count(13) + right.count(13), 2);
        }
    }

    private static void bendsThatCount() {
        sentence("Bends are counted: how often a bend became another one.)");
        BentPins x = Boards.of(Boards.rows("<<<<<"));
        Boards.bendBy(x, 0, -2);
        check.same("bends by hand", x.count(13), 0);
        x.shoot(0, false);
        check.same("a soft ball", x.count(13), 0);
        int[] due = {4, 8, 8, 8};
        for (int i = 0; i < due.length; i++) {
            x.shoot(0, true);
            check.same("bends by " + (i + 1) + " hard balls, one pin at -3 before", x.count(13), due[i]);
        }
        BentPins y = Boards.onePin(34, 2);
        y.shoot(6, true);
        check.same("from 2 to 3", y.count(13), 1);
        y.shoot(6, true);
        check.same("at 3", y.count(13), 1);
        y.shoot(0, true);
        check.same("where no pins are", y.count(13), 1);
        Boards.shootAll(y, 0, true);
        y.bend(34, false);
        y.shoot(6, true);
        check.same("a refused one", y.count(13), 1);
    }

    private static void bellsRing() {
        sentence("A bell rings for each ball that comes to its pin.");
        for (int pin : SOME_PINS) {
            BentPins x = Boards.onePin(pin, 0);
            x.bell(pin);
            x.set(BentPins.FULL, 1);
            for (int ball = 1; ball <= 20; ball++) {
                x.shoot(pin % 7, ball % 3 == 0);
                check.same("rings of " + pin + ", lost balls, too", x.count(12), ball);
            }
            x.shoot(pin % 7, false);
            check.same("a refused ball does not come", x.count(12), 20);
        }
        BentPins y = new BentPins();
        y.bell(8);
        y.shoot(0, false);
        check.same("no ball comes to the pin", y.count(12), 0);
        for (int pin = 0; pin < 35; pin += 7) {
            y.bell(pin);
        }
        y.set(BentPins.TILT, 0);
        check.same("a bell in each row by the rim", y.shoot(0, false), 10 + 5 + 4);
        check.same("rings", y.count(12), 5);
    }
}
