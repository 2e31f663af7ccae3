/** The boundary cases of the promises 16, 17 and 20 to 24: the looks, and what would be. */
public final class LookEdgesTest {
    private static final Check check = new Check("LookEdgesTest");

    public static void main(String[] args) {
        pinsThatAreOut();
        ballsThatCame();
        ballsThatEnded();
        leastAndGreatestCounts();
        countsOfPins();
        countsOfBalls();
        countsOfRefusedDeeds();
        meanWithoutShots();
        endsWithoutBalls();
        endsInFullPockets();
        fewestAndMostShots();
        asLongAsBallsAreLeft();
        lostInThem();
        bestByPoints();
        bestByReach();
        lowestBest();
        bestWithoutBalls();
        check.end();
    }

    private static void pinsThatAreOut() {
        check.sentence("Promise 16", "0: its bend, and 3; NOT_FOUND if it is pulled out;");
        int[] pins = {0, 34};
        for (int pin : pins) {
            BentPins x = new BentPins();
            Boards.bendBy(x, pin, 3);
            check.same("the greatest bend, and 3", x.pin(pin, 0), 6);
            x.pull(pin);
            check.same("pulled out", x.pin(pin, 0), BentPins.NOT_FOUND);
            x.pull(pin);
            check.same("set again, it is straight", x.pin(pin, 0), 3);
            Boards.bendBy(x, pin, -3);
            check.same("the least bend, and 3", x.pin(pin, 0), 0);
        }
        check.sentence("Promise 16", "1: 1 if it has a bell, otherwise 0; 2: its side, 0 left, 1 right; NOT_FOUND if it is "
            + "pulled out;");
        BentPins x = new BentPins();
        x.shoot(3, false);
        x.bell(3);
        check.same("its side", x.pin(3, 2), 1);
        x.pull(3);
        check.same("no side without the pin", x.pin(3, 2), BentPins.NOT_FOUND);
        check.same("the bell stays with the pin", x.pin(3, 1), 1);
        x.pull(3);
        check.same("its side, set again", x.pin(3, 2), 0);
        check.same("its bell, set again", x.pin(3, 1), 1);
        x.bell(3);
        check.same("without the bell", x.pin(3, 1), 0);
    }

    private static void ballsThatCame() {
        check.sentence("Promise 16", "3: balls that came to it so far (also while it is pulled out, to its place);");
        BentPins x = Boards.of(Boards.OPEN);
        check.same("none", x.pin(6, 3), 0);
        x.shoot(6, false);
        x.shoot(6, true);
        check.same("while it is pulled out", x.pin(6, 3), 2);
        check.same("in the last row", x.pin(34, 3), 2);
        x.pull(6);
        check.same("set again", x.pin(6, 3), 2);
        Boards.shootAll(x, 6, false);
        check.same("all twenty, lost ones, too, and no refused ones", x.pin(6, 3), 20);
        check.same("those that were sent to the right, and stayed by the rim", x.pin(34, 3), 11);
        x.empty();
        check.same("emptied", x.pin(6, 3), 20);
        x.shoot(6, false);
        check.same("more than twenty", x.pin(6, 3), 21);
    }

    private static void ballsThatEnded() {
        check.sentence("Promise 17", "2: 1 if it is full, otherwise 0; 3: balls that ended there so far, lost ones, too;");
        BentPins x = Boards.of(Boards.OPEN);
        for (int ball = 1; ball <= 20; ball++) {
            x.shoot(0, false);
            check.same("balls in it", x.pocket(0, 1), Math.min(ball, 3));
            check.same("full", x.pocket(0, 2), ball >= 3 ? 1 : 0);
            check.same("balls that ended there", x.pocket(0, 3), ball);
        }
        x.shoot(0, false);
        check.same("a refused one does not end there", x.pocket(0, 3), 20);
        x.empty();
        check.same("emptied: balls in it", x.pocket(0, 1), 0);
        check.same("emptied: full", x.pocket(0, 2), 0);
        check.same("emptied: balls that ended there so far", x.pocket(0, 3), 20);
        check.same("another pocket", x.pocket(6, 3), 0);
    }

    private static void leastAndGreatestCounts() {
        check.sentence("Promise 20", "Returns the number; INVALID_ARGUMENT.");
        BentPins x = new BentPins();
        check.same("count(-1)", x.count(-1), BentPins.INVALID_ARGUMENT);
        check.same("count(0), the first one", x.count(0), 0);
        check.same("count(18), the last one", x.count(18), 0);
        check.same("count(19)", x.count(19), BentPins.INVALID_ARGUMENT);
    }

    private static void countsOfPins() {
        check.sentence("Promise 20", "4: pins; 5: straight ones; 6: bends of all pins, each without its sign, together; "
            + "7: bells;");
        BentPins x = new BentPins();
        for (int pin = 0; pin < 35; pin++) {
            Boards.bendBy(x, pin, pin % 2 == 0 ? 3 : -3);
            x.bell(pin);
            check.same("straight ones", x.count(5), 34 - pin);
            check.same("bends together", x.count(6), 3 * pin + 3);
            check.same("bells", x.count(7), pin + 1);
        }
        check.same("pins", x.count(4), 35);
        BentPins y = new BentPins();
        y.bend(34, true);
        for (int pin = 34; pin >= 0; pin--) {
            y.bell(pin);
            y.pull(pin);
            check.same("pins", y.count(4), pin);
            check.same("straight ones are pins", y.count(5), pin);
            check.same("bends of pins that are out", y.count(6), 0);
            check.same("bells of pins that are out", y.count(7), 35 - pin);
        }
    }

    private static void countsOfBalls() {
        check.sentence("Promise 20", "0: points so far; 1: balls that are left; 2: balls in pockets; 3: lost ones;");
        BentPins x = Boards.of(Boards.OPEN);
        for (int shot = 1; shot <= 21; shot++) {
            x.shoot(6, false);
            check.same("points", x.count(0), 4 * Math.min(shot, 3));
            check.same("left", x.count(1), Math.max(0, 20 - shot));
            check.same("in pockets", x.count(2), Math.min(shot, 3));
            check.same("lost", x.count(3), Math.max(0, Math.min(shot, 20) - 3));
        }
        x.empty();
        check.same("points, emptied", x.count(0), 12);
        check.same("left, emptied", x.count(1), 20);
        check.same("in pockets, emptied", x.count(2), 0);
        check.same("lost, emptied", x.count(3), 0);
    }

    private static void countsOfRefusedDeeds() {
        check.sentence("Promise 20", "14: refused deeds;");
        BentPins x = new BentPins();
        x.shoot(7, false);
        x.bend(35, true);
        x.board();
        x.shots();
        x.undo();
        x.restore();
        check.same("errors are none", x.count(14), 0);
        Boards.bendBy(x, 4, 4);
        check.same("a bend too far", x.count(14), 1);
        x.pull(4);
        x.bend(4, false);
        check.same("a bend of no pin", x.count(14), 2);
        Boards.shootAll(x, 3, false);
        check.same("the last ball is not refused", x.count(14), 2);
        x.shoot(3, false);
        check.same("a shot", x.count(14), 3);
        Boards.shots(x, "3,3");
        check.same("a shot of a pad", x.count(14), 4);
        x.ifShot(3, false, 20, 0);
        x.best(false);
        x.ends(3);
        check.same("what would be", x.count(14), 4);
    }

    private static void meanWithoutShots() {
        check.sentence("Promise 21", "Returns the points so far, as a double, divided by the shots so far; 0.0 without "
            + "any.");
        BentPins x = Boards.of(Boards.OPEN);
        check.sameDouble("no shots", x.mean(), 0.0);
        x.worth(3, 0);
        x.shoot(3, false);
        check.sameDouble("one shot, no points", x.mean(), 0.0);
        x.shoot(2, false);
        check.sameDouble("two shots, 2 points", x.mean(), 1.0);
        x.shoot(3, false);
        check.sameDouble("three shots, 2 points", x.mean(), 2.0 / 3.0);
        x.empty();
        Boards.shootAll(x, 0, false);
        check.sameDouble("23 shots, 14 points", x.mean(), 14.0 / 23.0);
        x.shoot(0, false);
        check.sameDouble("a refused shot is none", x.mean(), 14.0 / 23.0);
        BentPins y = new BentPins();
        y.shoot(3, true);
        check.sameDouble("one shot, 4 points", y.mean(), 4.0);
    }

    private static void endsWithoutBalls() {
        check.sentence("Promise 22", "Tells in which pocket a ball would end now (if there was one left).");
        BentPins x = Boards.of(Boards.rows("|...."));
        Boards.shootAll(x, 3, false);
        check.same("no balls left", x.count(1), 0);
        check.same("by the left rim", x.ends(0), 0);
        check.same("by the side of 3", x.ends(3), 2);
        x.set(BentPins.TILT, 2);
        check.same("by the right rim", x.ends(6), 6);
        x.pull(6);
        check.same("straight down", x.ends(6), 6);
        check.same("ends(-1)", x.ends(-1), BentPins.INVALID_ARGUMENT);
        check.same("ends(7)", x.ends(7), BentPins.INVALID_ARGUMENT);
    }

    private static void endsInFullPockets() {
        check.sentence("Promise 22", "Returns the pocket, also if it is full;");
        BentPins x = Boards.of(Boards.OPEN);
        x.set(BentPins.FULL, 1);
        for (int place = 0; place < 7; place++) {
            x.shoot(place, false);
            check.same("full", x.pocket(place, 2), 1);
            check.same("ends(" + place + ")", x.ends(place), place);
        }
    }

    private static void fewestAndMostShots() {
        check.sentence("Promise 23", "shots: 1 to 20");
        BentPins x = Boards.of(Boards.OPEN);
        x.set(BentPins.FULL, 9);
        check.same("0 shots", x.ifShot(0, false, 0, 0), BentPins.INVALID_ARGUMENT);
        check.same("1 shot", x.ifShot(0, false, 1, 0), 4);
        check.same("9 shots", x.ifShot(0, false, 9, 0), 36);
        check.same("20 shots: 9 go in", x.ifShot(0, false, 20, 0), 36);
        check.same("20 shots: 11 are lost", x.ifShot(0, false, 20, 1), 11);
        check.same("21 shots", x.ifShot(0, false, 21, 0), BentPins.INVALID_ARGUMENT);
    }

    private static void asLongAsBallsAreLeft() {
        check.sentence("Promise 23", "Tells what shots to a place would bring, one after the other, as long as balls are "
            + "left.");
        BentPins x = Boards.onePin(3, 0);
        for (int i = 0; i < 17; i++) {
            x.shoot(6, false);
        }
        check.same("three are left: to 2, 4 and 2", x.ifShot(3, false, 20, 0), 6);
        check.same("three hard ones: to 2", x.ifShot(3, true, 20, 0), 6);
        check.same("as many as are left", x.ifShot(3, false, 3, 0), 6);
        check.same("one more", x.ifShot(3, false, 4, 0), 6);
        check.same("three to the full pocket are lost", x.ifShot(6, false, 20, 1), 3);
        check.same("three hard ones bend the pin", x.ifShot(3, true, 20, 2), 127 - 8);
        check.same("soft ones do not", x.ifShot(3, false, 20, 2), 127 - 8);
        for (int i = 0; i < 3; i++) {
            x.shoot(6, false);
        }
        check.same("no balls: points", x.ifShot(3, true, 20, 0), 0);
        check.same("no balls: lost", x.ifShot(6, true, 1, 1), 0);
        check.same("no balls: reach", x.ifShot(3, true, 20, 2), 127 - 8);
        check.same("no shot is refused", x.count(14), 0);
    }

    private static void lostInThem() {
        check.sentence("Promise 23", "0: the points; 1: how many balls are lost in them; 2: the pockets that can be reached "
            + "then, as a set");
        BentPins x = Boards.of(Boards.OPEN.substring(7) + "|>.....");
        x.set(BentPins.FULL, 1);
        x.worth(0, 9);
        x.bell(28);
        check.same("one hard shot", x.ifShot(0, true, 1, 0), 10);
        check.same("two hard shots: the bell alone", x.ifShot(0, true, 2, 0), 11);
        check.same("none is lost", x.ifShot(0, true, 1, 1), 0);
        check.same("one is lost", x.ifShot(0, true, 2, 1), 1);
        check.same("the pocket 1 cannot be reached", x.ifShot(0, true, 1, 2), 125);
        check.same("it can behind a soft one", x.ifShot(0, false, 1, 2), 127);
        check.same("it brings 3 and the bell", x.ifShot(0, false, 2, 0), 10 + 4);
        x.shoot(0, true);
        x.shoot(0, true);
        check.same("points before do not count", x.ifShot(0, true, 1, 0), 1);
        check.same("lost ones before do not count", x.ifShot(0, true, 1, 1), 1);
        check.same("what = -1", x.ifShot(0, true, 1, -1), BentPins.INVALID_ARGUMENT);
        check.same("what = 3", x.ifShot(0, true, 1, 3), BentPins.INVALID_ARGUMENT);
    }

    private static void bestByPoints() {
        check.sentence("Promise 24", "Returns the place whose shot brings the most points now,");
        for (int place = 0; place < 7; place++) {
            BentPins x = Boards.of(Boards.OPEN);
            x.worth(place, 5);
            check.same("the only one that brings 5", x.best(false), place);
            check.same("the only one that brings 5", x.best(true), place);
        }
        BentPins y = Boards.of(Boards.OPEN);
        y.set(BentPins.FULL, 1);
        y.worth(5, 9);
        y.shoot(5, false);
        check.same("the pocket 5 is full", y.best(false), 0);
        y.empty();
        check.same("and empty again", y.best(false), 5);
    }

    private static void bestByReach() {
        check.sentence("Promise 24", "of several the one behind which the most pockets can be reached,");
        BentPins x = Boards.of(Boards.OPEN.substring(7) + "|>...<|");
        for (int pocket = 0; pocket < 7; pocket++) {
            x.worth(pocket, 5);
        }
        check.same("hard: 0 closes the pocket 1, 6 the pocket 6", x.best(true), 1);
        check.same("soft: none is closed", x.best(false), 0);
        x.worth(6, 6);
        x.worth(5, 6);
        check.same("the points go first", x.best(true), 6);
        BentPins y = Boards.of(Boards.OPEN.substring(7) + "|>>.<<|");
        y.set(BentPins.FULL, 1);
        Boards.shots(y, "0,1,2,3,4,5,6,0,6");
        check.same("all are full", y.count(8), 7);
        check.same("no points: hard, the first one that closes none", y.best(true), 1);
        check.same("no points: soft, the first one", y.best(false), 0);
    }

    private static void lowestBest() {
        check.sentence("Promise 24", "of these the lowest;");
        BentPins x = Boards.of(Boards.OPEN);
        check.same("0 and 6", x.best(false), 0);
        x.worth(0, 3);
        check.same("6", x.best(false), 6);
        x.worth(5, 4);
        check.same("5 and 6", x.best(true), 5);
        for (int pocket = 0; pocket < 7; pocket++) {
            x.worth(pocket, 0);
        }
        check.same("all bring nothing", x.best(false), 0);
    }

    private static void bestWithoutBalls() {
        check.sentence("Promise 24", "NOT_POSSIBLE if no balls are left.");
        BentPins x = Boards.of(Boards.OPEN);
        for (int i = 0; i < 19; i++) {
            x.shoot(0, false);
        }
        check.same("one ball is left", x.best(false), 6);
        x.shoot(0, false);
        check.same("no ball is left", x.best(false), BentPins.NOT_POSSIBLE);
        check.same("no ball is left, hard", x.best(true), BentPins.NOT_POSSIBLE);
        x.empty();
        check.same("all are left again", x.best(false), 0);
    }
}
