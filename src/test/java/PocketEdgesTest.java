/** The boundary cases under the headings 'Pockets', 'Deeds' (but for reach and ways) and 'Settings'. */
public final class PocketEdgesTest {
    private static final Check check = new Check("PocketEdgesTest");

    public static void main(String[] args) {
        leastAndGreatestWorth();
        worthsAtFirst();
        oneBallToFull();
        moreThanFull();
        whatShotsBring();
        intoFullPockets();
        theLastBall();
        refusedShots();
        ballsAtFirst();
        bendsByHand();
        refusedBendsOfNoPin();
        refusedBendsTooFar();
        refusedForTheFirstReason();
        emptiedPockets();
        tilts();
        fulls();
        check.end();
    }

    private static void leastAndGreatestWorth() {
        check.sentence("Pockets", "A pocket has a worth, 0 to 9;");
        BentPins x = Boards.of(Boards.OPEN);
        for (int pocket = 0; pocket < 7; pocket++) {
            x.worth(pocket, 0);
            check.same("the least worth", x.pocket(pocket, 0), 0);
            check.same("a ball brings it", x.shoot(pocket, false), 10);
            x.worth(pocket, 9);
            check.same("the greatest worth", x.pocket(pocket, 0), 9);
            check.same("a ball brings it", x.shoot(pocket, true), 19);
            check.same("one less", x.worth(pocket, -1), BentPins.INVALID_ARGUMENT);
            check.same("one more", x.worth(pocket, 10), BentPins.INVALID_ARGUMENT);
            check.same("the worth then", x.pocket(pocket, 0), 9);
        }
    }

    private static void worthsAtFirst() {
        check.sentence("Pockets", "at first the pocket k is worth the greater one of k and 6 - k, less 2.");
        BentPins x = Boards.of(Boards.OPEN);
        for (int k = 0; k < 7; k++) {
            check.same("worth of " + k, x.pocket(k, 0), k > 6 - k ? k - 2 : 6 - k - 2);
            check.same("a ball brings it", x.shoot(k, false), 10 + (k > 6 - k ? k - 2 : 6 - k - 2));
        }
    }

    private static void oneBallToFull() {
        check.sentence("Pockets", "A pocket is full with FULL balls or more.");
        for (int full = 1; full <= 9; full++) {
            BentPins x = Boards.of(Boards.OPEN);
            x.set(BentPins.FULL, full);
            for (int ball = 0; ball < full; ball++) {
                check.same(ball + " of " + full + " balls", x.pocket(6, 2), 0);
                check.same("full pockets", x.count(8), 0);
                check.same("a ball goes into it", x.shoot(6, false), 14);
            }
            check.same(full + " of " + full + " balls", x.pocket(6, 2), 1);
            check.same("full pockets", x.count(8), 1);
            check.same("a ball more", x.shoot(6, false), 10);
            check.same("balls in it", x.pocket(6, 1), full);
            check.same("another one is empty", x.pocket(5, 2), 0);
        }
    }

    private static void moreThanFull() {
        BentPins x = Boards.of(Boards.OPEN);
        for (int i = 0; i < 3; i++) {
            x.shoot(0, false);
        }
        for (int full = 9; full >= 1; full--) {
            x.set(BentPins.FULL, full);
            check.same("three balls, FULL " + full, x.pocket(0, 2), full <= 3 ? 1 : 0);
            check.same("full pockets, FULL " + full, x.count(8), full <= 3 ? 1 : 0);
            check.same("what a ball would bring", x.ifShot(0, false, 1, 0), full <= 3 ? 0 : 4);
        }
        check.same("a ball into a pocket with more than FULL", x.shoot(0, false), 10);
        check.same("balls in it", x.pocket(0, 1), 3);
    }

    private static void whatShotsBring() {
        check.sentence("Pockets", "A shot brings the worth of the pocket in which the ball ends as points, and 1 for "
            + "each bell that it rings;");
        BentPins x = Boards.of(Boards.rows("ooooo"));
        x.set(BentPins.TILT, 0);
        x.set(BentPins.FULL, 1);
        x.worth(0, 9);
        check.same("the most: 9 and five bells, and the pocket is full by it", x.shoot(0, false), 10 + 9 + 5);
        BentPins y = Boards.of(Boards.OPEN);
        y.worth(6, 0);
        check.same("the least: no bell, worth nothing", y.shoot(6, false), 10);
        check.same("points", y.count(0), 0);
    }

    private static void intoFullPockets() {
        check.sentence("Pockets", "into a full pocket the ball does not go: it is lost, and brings the bells alone.");
        BentPins x = Boards.of(Boards.rows("o...."));
        x.set(BentPins.TILT, 2);
        x.set(BentPins.FULL, 1);
        check.same("the first ball", x.shoot(6, false), 10 + 4 + 1);
        check.same("lost, one bell", x.shoot(6, false), 10 + 1);
        check.same("balls in it", x.pocket(6, 1), 1);
        check.same("balls that ended there", x.pocket(6, 3), 2);
        check.same("lost ones", x.count(3), 1);
        x.pull(6);
        check.same("lost, no bell", x.shoot(6, true), 10);
        check.same("lost ones", x.count(3), 2);
        check.same("points", x.count(0), 6);
        x.set(BentPins.FULL, 2);
        check.same("lost ones do not go in later", x.pocket(6, 1), 1);
        check.same("a ball goes into it again", x.shoot(6, false), 14);
        check.same("lost ones", x.count(3), 2);
    }

    private static void theLastBall() {
        check.sentence("Deeds", "It is refused for the reason 1, if no balls are left.");
        BentPins x = Boards.of(Boards.OPEN);
        for (int i = 0; i < 19; i++) {
            x.shoot(i % 7, false);
        }
        check.same("one ball is left", x.count(1), 1);
        check.same("the last ball", x.shoot(6, false), 14);
        check.same("no ball is left", x.count(1), 0);
        check.same("a soft one is refused", x.shoot(3, false), 1);
        check.same("a hard one is refused", x.shoot(0, true), 1);
        x.empty();
        check.same("a shot again", x.shoot(3, false), 11);
    }

    private static void refusedShots() {
        BentPins x = new BentPins();
        x.bell(2);
        x.bell(4);
        Boards.shootAll(x, 3, true);
        String before = Boards.stateButRefusals(x);
        check.same("refused deeds", x.count(14), 0);
        check.same("refused", x.shoot(2, true), 1);
        check.same("refused", x.shoot(4, false), 1);
        check.sameText("all else stays", Boards.stateButRefusals(x), before);
        check.same("refused deeds", x.count(14), 2);
    }

    private static void ballsAtFirst() {
        check.sentence("Deeds", "There are 20 balls at first; each shot takes one.");
        BentPins x = new BentPins();
        check.same("balls at first", x.count(1), 20);
        for (int shot = 1; shot <= 20; shot++) {
            x.shoot(shot % 7, shot % 2 == 0);
            check.same("balls left, lost ones are taken, too", x.count(1), 20 - shot);
        }
        x.shoot(3, false);
        check.same("not below 0", x.count(1), 0);
        check.same("in pockets and lost", x.count(2) + x.count(3), 20);
    }

    private static void bendsByHand() {
        check.sentence("Deeds", "To bend a pin by hand: its bend becomes 1 less or 1 more.");
        BentPins x = new BentPins();
        for (int bend = -1; bend >= -3; bend--) {
            check.same("to the left", x.bend(34, false), 13 + bend);
        }
        for (int bend = -2; bend <= 3; bend++) {
            check.same("to the right", x.bend(34, true), 13 + bend);
        }
        check.same("back from 3", x.bend(34, false), 15);
        check.same("no other bends", x.count(6), 2);
    }

    private static void refusedBendsOfNoPin() {
        check.sentence("Deeds", "2: the pin is pulled out;");
        BentPins x = new BentPins();
        x.pull(0);
        x.bell(0);
        String before = Boards.stateButRefusals(x);
        check.same("to the left", x.bend(0, false), 2);
        check.same("to the right", x.bend(0, true), 2);
        check.sameText("all else stays", Boards.stateButRefusals(x), before);
        check.same("refused deeds", x.count(14), 2);
        x.pull(0);
        check.same("set again, it is straight", x.pin(0, 0), 3);
        check.same("set again, it bends", x.bend(0, true), 14);
    }

    private static void refusedBendsTooFar() {
        check.sentence("Deeds", "3: the bend would be below -3 or above 3.");
        for (int bend = -3; bend <= 3; bend += 6) {
            BentPins x = new BentPins();
            Boards.bendBy(x, 20, bend);
            check.same("not refused as far as " + bend, x.count(14), 0);
            String before = Boards.stateButRefusals(x);
            check.same("beyond " + bend, x.bend(20, bend > 0), 3);
            check.same("beyond " + bend + " again", x.bend(20, bend > 0), 3);
            check.sameText("all else stays", Boards.stateButRefusals(x), before);
            check.same("refused deeds", x.count(14), 2);
            check.same("the other way", x.bend(20, bend < 0), bend > 0 ? 15 : 11);
            check.same("and back", x.bend(20, bend > 0), 13 + bend);
        }
        BentPins y = Boards.onePin(17, 0);
        for (int i = 0; i < 3; i++) {
            y.shoot(3, true);
        }
        check.same("bent so far by hard balls", y.bend(17, false), 3);
    }

    private static void refusedForTheFirstReason() {
        check.sentence("Deeds", "It is refused for the first of these reasons that is so:");
        for (int bend = -3; bend <= 3; bend += 6) {
            BentPins x = new BentPins();
            Boards.bendBy(x, 34, bend);
            check.same("too far", x.bend(34, bend > 0), 3);
            x.pull(34);
            check.same("pulled out as it was bent so far", x.bend(34, bend > 0), 2);
            check.same("refused deeds", x.count(14), 2);
        }
    }

    private static void emptiedPockets() {
        check.sentence("Deeds", "To empty the pockets: all balls in them, and lost ones, are left again.");
        BentPins x = Boards.of(Boards.OPEN);
        check.same("nothing is in them", x.empty(), 20);
        x.set(BentPins.FULL, 1);
        for (int place = 0; place < 7; place++) {
            x.shoot(place, false);
        }
        check.same("full ones", x.count(8), 7);
        for (int i = 0; i < 13; i++) {
            x.shoot(i % 7, false);
        }
        check.same("lost ones", x.count(3), 13);
        check.same("no balls left", x.count(1), 0);
        check.same("seven balls and thirteen lost ones", x.empty(), 20);
        check.same("lost ones", x.count(3), 0);
        check.same("full ones", x.count(8), 0);
        for (int pocket = 0; pocket < 7; pocket++) {
            check.same("balls in " + pocket, x.pocket(pocket, 1), 0);
        }
        check.same("again", x.empty(), 20);
        x.shoot(2, false);
        check.same("one ball", x.empty(), 20);
    }

    private static void tilts() {
        check.sentence("Settings", "TILT: 0 to the left, 1 level, 2 to the right; 1 at first.");
        BentPins x = new BentPins();
        check.same("at first", x.count(15), 1);
        check.same("level: both ways", x.reach(0), 127);
        check.same("set(0, 0)", x.set(0, 0), 1);
        check.same("to the left", x.ends(6), 1);
        check.same("set(0, -1)", x.set(0, -1), BentPins.INVALID_ARGUMENT);
        check.same("set(0, 2)", x.set(0, 2), 0);
        check.same("to the right", x.ends(0), 5);
        check.same("set(0, 3)", x.set(0, 3), BentPins.INVALID_ARGUMENT);
        check.same("then", x.count(15), 2);
    }

    private static void fulls() {
        check.sentence("Settings", "FULL, 1 to 9, at first 3.");
        BentPins x = new BentPins();
        check.same("at first", x.count(16), 3);
        check.same("set(1, 1)", x.set(1, 1), 3);
        check.same("set(1, 0)", x.set(1, 0), BentPins.INVALID_ARGUMENT);
        check.same("set(1, 9)", x.set(1, 9), 1);
        check.same("set(1, 10)", x.set(1, 10), BentPins.INVALID_ARGUMENT);
        check.same("then", x.count(16), 9);
    }
}
