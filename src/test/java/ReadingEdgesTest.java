/** The boundary cases of the promises 12 to 15: what is read from the pad (board, shots, why), and sign. */
public final class ReadingEdgesTest {
    private static final Check check = new Check("ReadingEdgesTest");
    private static final int NONE = BentPins.NOT_FOUND;

    public static void main(String[] args) {
        boardsMakeThePins();
        whatBoardsLeave();
        howManyPins();
        padsThatAreNoBoards();
        shotsUpToTheRefusedOne();
        emptiedPads();
        oneChangeAlsoOfNothing();
        pointsOfShots();
        padsThatAreNoShots();
        whereShotsStopped();
        whyIsNotUndone();
        noStop();
        signsOfAllBends();
        signsOfPinsWithBells();
        check.end();
    }

    private static void why(String what, BentPins x, int reason, int part, int position) {
        check.same("why(0), " + what, x.why(0), reason);
        check.same("why(1), " + what, x.why(1), part);
        check.same("why(2), " + what, x.why(2), position);
    }

    /** A new object on which so many balls are left; the pockets do not matter. */
    private static BentPins ballsLeft(int balls) {
        BentPins x = new BentPins();
        for (int i = balls; i < 20; i++) {
            x.shoot(3, false);
        }
        return x;
    }

    private static void boardsMakeThePins() {
        check.sentence("Promise 12", "Makes the pins those of the pad (all their sides left), and empties the pad;");
        BentPins x = new BentPins();
        x.shoot(0, false);
        x.shoot(6, true);
        x.bell(0);
        x.bell(34);
        Boards.bendBy(x, 20, 3);
        x.pull(33);
        check.same("a side before", x.pin(0, 2), 1);
        check.same("board()", Boards.board(x, Boards.STRAIGHT), 35);
        check.same("the pad is empty", x.count(17), 0);
        check.sameText("the signs", Boards.text(x), Boards.STRAIGHT);
        check.same("no bends", x.count(6), 0);
        check.same("no bells", x.count(7), 0);
        for (int pin = 0; pin < 35; pin++) {
            check.same("side of " + pin, x.pin(pin, 2), 0);
        }
        check.same("board() of an empty pad", x.board(), BentPins.NOT_POSSIBLE);
    }

    private static void whatBoardsLeave() {
        check.sentence("Promise 12", "balls, points, worths and settings stay.");
        BentPins x = new BentPins();
        x.set(BentPins.FULL, 1);
        x.set(BentPins.TILT, 2);
        x.worth(6, 9);
        x.bell(6);
        for (int i = 0; i < 20; i++) {
            x.shoot(6, true);
        }
        x.shoot(6, true);
        Boards.board(x, Boards.OPEN);
        int[] due = {9 + 20, 0, 1, 19};
        for (int what = 0; what < due.length; what++) {
            check.same("count(" + what + ")", x.count(what), due[what]);
        }
        int[] soFar = {20, 20, 20, 15, 1, 2, 1};
        for (int what = 10; what <= 16; what++) {
            check.same("count(" + what + ")", x.count(what), soFar[what - 10]);
        }
        check.same("worth", x.pocket(6, 0), 9);
        check.same("balls in it", x.pocket(6, 1), 1);
        check.same("balls that ended there", x.pocket(6, 3), 20);
        check.same("balls that came to the pin", x.pin(6, 3), 20);
    }

    private static void howManyPins() {
        check.sentence("Promise 12", "Returns how many pins there are;");
        BentPins x = new BentPins();
        check.same("none", Boards.board(x, Boards.OPEN), 0);
        check.same("the first one", Boards.board(x, Boards.with(Boards.OPEN, 0, 'o')), 1);
        check.same("the last one", Boards.board(x, Boards.with(Boards.OPEN, 34, '<')), 1);
        check.same("all but one", Boards.board(x, Boards.with(Boards.STRAIGHT, 34, '.')), 34);
        check.same("all", Boards.board(x, Boards.STRAIGHT), 35);
    }

    private static void padsThatAreNoBoards() {
        check.sentence("Promise 12", "NOT_POSSIBLE if the pad has a fault, read as a board.");
        String[] wrong = {"", "|", Boards.STRAIGHT.substring(1), Boards.STRAIGHT + ".", "|".repeat(60),
            Boards.with(Boards.OPEN, 0, 'x'), Boards.with(Boards.OPEN, 34, '!'), "3,3!,e"};
        for (String pad : wrong) {
            BentPins x = new BentPins();
            check.same("board() of " + pad, Boards.board(x, pad), BentPins.NOT_POSSIBLE);
            check.same("the pad stays", x.count(17), pad.length());
            check.sameText("the pins stay", Boards.text(x), Boards.STRAIGHT);
            check.same("no change", x.count(18), 0);
        }
        BentPins x = new BentPins();
        Boards.board(x, Boards.OPEN.substring(1));
        check.same("a sign more, and it is one", x.append('|'), 35);
        check.same("board()", x.board(), 1);
    }

    private static void shotsUpToTheRefusedOne() {
        check.sentence("Promise 13", "Shoots as the pad tells, up to the first shot that is refused (which is counted), "
            + "and empties the pad.");
        BentPins x = ballsLeft(2);
        Boards.shots(x, "0,0!,0,e,0,0");
        check.same("shots", x.count(10), 20);
        check.same("hard ones", x.count(11), 1);
        check.same("one refused deed, not two", x.count(14), 1);
        check.same("no balls left: not emptied behind it", x.count(1), 0);
        check.same("balls that came to the pin 0", x.pin(0, 3), 2);
        check.same("the pad is empty", x.count(17), 0);
        BentPins y = ballsLeft(0);
        Boards.shots(y, "e,0,e,0!,e");
        check.same("emptied ahead of them: none is refused", y.count(14), 0);
        check.same("shots", y.count(10), 22);
        check.same("left", y.count(1), 20);
        BentPins z = new BentPins();
        Boards.shots(z, "3" + ",3".repeat(19));
        check.same("as many as there are balls", z.count(10), 20);
        check.same("none is refused", z.count(14), 0);
        BentPins w = new BentPins();
        Boards.shots(w, "3" + ",3".repeat(20));
        check.same("one more than there are balls", w.count(10), 20);
        check.same("the last one is refused", w.count(14), 1);
    }

    private static void emptiedPads() {
        BentPins x = ballsLeft(0);
        Boards.write(x, "1!,2");
        x.shots();
        check.same("the pad is empty, also where the first shot is refused", x.count(17), 0);
        check.same("its fault", x.fault(1), 0);
        check.same("shots() of an empty pad", x.shots(), BentPins.NOT_POSSIBLE);
    }

    private static void oneChangeAlsoOfNothing() {
        check.sentence("Promise 13", "This is one change, also if nothing is done.");
        BentPins x = new BentPins();
        Boards.shots(x, "e");
        check.same("nothing was in the pockets", x.count(18), 1);
        Boards.shots(x, "0,1,2,3,4,5,6!");
        check.same("seven shots", x.count(18), 2);
        check.same("undo()", x.undo(), 1);
        check.same("no shots", x.count(10), 0);
        BentPins y = new BentPins();
        Boards.shots(y, "3" + ",3".repeat(19));
        check.same("twenty shots", y.count(18), 1);
        Boards.shots(y, "3,3,3");
        check.same("the first one is refused", y.count(18), 2);
        check.same("it is counted", y.count(14), 1);
        check.same("undo()", y.undo(), 1);
        check.same("it is not counted then", y.count(14), 0);
        check.same("undo()", y.undo(), 0);
        check.same("all balls are left", y.count(1), 20);
    }

    private static void pointsOfShots() {
        check.sentence("Promise 13", "Returns how many points come by that;");
        BentPins x = new BentPins();
        check.same("none: no shot", Boards.shots(x, "e,e"), 0);
        check.same("of one shot", Boards.shots(x, "3"), 4);
        check.same("only those that come by it", Boards.shots(x, "3,3"), 4 + 2);
        BentPins y = Boards.of(Boards.OPEN);
        check.same("up to the full pocket", Boards.shots(y, "0,0,0,0,0"), 12);
        check.same("lost ones bring none", Boards.shots(y, "0,0!"), 0);
        check.same("emptied between them", Boards.shots(y, "0,e,0"), 4);
        BentPins z = ballsLeft(1);
        int before = z.count(0);
        int points = Boards.shots(z, "6!,6");
        check.same("up to the refused one", points, z.count(0) - before);
        check.same("that is the pocket 1", points, 3);
        check.same("none: refused at once", Boards.shots(z, "6,6"), 0);
    }

    private static void padsThatAreNoShots() {
        check.sentence("Promise 13", "NOT_POSSIBLE if the pad has a fault, read as shots.");
        String[] wrong = {"", ",", "3,", "7", "3,3,3!!", "e!", Boards.STRAIGHT, "0,".repeat(30)};
        for (String pad : wrong) {
            BentPins x = new BentPins();
            check.same("shots() of " + pad, Boards.shots(x, pad), BentPins.NOT_POSSIBLE);
            check.same("the pad stays", x.count(17), pad.length());
            check.same("no shots", x.count(10), 0);
            check.same("no change", x.count(18), 0);
            why("no stop", x, NONE, NONE, NONE);
        }
        BentPins x = new BentPins();
        Boards.shots(x, "3,");
        check.same("a sign more, and they are some", x.append('3'), 3);
        check.same("shots()", x.shots(), 8);
    }

    private static void whereShotsStopped() {
        check.sentence("Promise 14", "Tells about the shot at which the latest call of shots() that returned no error "
            + "stopped.");
        BentPins x = ballsLeft(0);
        Boards.shots(x, "3");
        why("at the only part", x, 1, 0, 0);
        Boards.shots(x, "e,3!,3");
        why("at no part", x, NONE, NONE, NONE);
        BentPins y = ballsLeft(2);
        Boards.shots(y, "3!,4!,5!,6!");
        why("behind two hard ones", y, 1, 2, 6);
        check.same("an error", Boards.shots(y, "3,"), BentPins.NOT_POSSIBLE);
        why("an error leaves it", y, 1, 2, 6);
        check.same("an error of an empty pad", Boards.shots(y, ""), BentPins.NOT_POSSIBLE);
        why("an error leaves it", y, 1, 2, 6);
        y.shoot(3, false);
        Boards.board(y, Boards.OPEN);
        why("other calls leave it", y, 1, 2, 6);
        Boards.shots(y, "5!,e");
        why("a later call, at the first part", y, 1, 0, 0);
        BentPins z = new BentPins();
        Boards.shots(z, "3" + ",3".repeat(19) + ",e" + ",3".repeat(9));
        why("thirty parts, all done", z, NONE, NONE, NONE);
        BentPins w = ballsLeft(10);
        Boards.shots(w, "e" + ",3".repeat(21));
        why("at the last of 22 parts", w, 1, 21, 42);
        BentPins v = ballsLeft(17);
        Boards.shots(v, "3!" + ",3!".repeat(17) + ",e");
        why("a hard one behind 17 hard ones", v, 1, 17, 51);
    }

    private static void whyIsNotUndone() {
        check.sentence("Promise 14", "(This is not a part of what is undone, or restored.)");
        BentPins x = ballsLeft(0);
        x.save();
        Boards.shots(x, "3,3");
        x.undo();
        check.same("undone", x.count(14), 0);
        why("not undone", x, 1, 0, 0);
        x.restore();
        why("not restored", x, 1, 0, 0);
        Boards.shots(x, "e,3");
        x.undo();
        why("not undone", x, NONE, NONE, NONE);
        x.restore();
        why("not restored", x, NONE, NONE, NONE);
    }

    private static void noStop() {
        check.sentence("Promise 14", "NOT_FOUND if there was no such call, or all its parts were done.");
        BentPins x = new BentPins();
        why("no call", x, NONE, NONE, NONE);
        x.shots();
        why("an error alone", x, NONE, NONE, NONE);
        Boards.shootAll(x, 3, false);
        x.shoot(3, false);
        why("a refused shot that is no part", x, NONE, NONE, NONE);
        Boards.shots(x, "e,3");
        why("all done", x, NONE, NONE, NONE);
    }

    private static void signsOfAllBends() {
        check.sentence("Promise 15", "Returns a sign of the board, as it would be written as a text: \"<\" for all bends "
            + "below 0, \">\" for all above 0,");
        int[] pins = {0, 34};
        for (int pin : pins) {
            for (int bend = -3; bend <= 3; bend++) {
                BentPins x = new BentPins();
                Boards.bendBy(x, pin, bend);
                check.same("sign(" + pin + "), the bend " + bend, x.sign(pin), bend < 0 ? '<' : bend > 0 ? '>' : '|');
                x.pull(pin);
                check.same("sign(" + pin + "), pulled out", x.sign(pin), '.');
            }
        }
    }

    private static void signsOfPinsWithBells() {
        check.sentence("Promise 15", "\"o\" for a pin with a bell, whatever its bend.");
        for (int bend = -3; bend <= 3; bend++) {
            BentPins x = new BentPins();
            x.bell(34);
            Boards.bendBy(x, 34, bend);
            check.same("sign(34), the bend " + bend, x.sign(34), 'o');
            x.bell(34);
            check.same("sign(34), without the bell", x.sign(34), bend < 0 ? '<' : bend > 0 ? '>' : '|');
        }
        BentPins x = new BentPins();
        x.bell(0);
        x.pull(0);
        check.same("no pin, and its bell", x.sign(0), '.');
        x.pull(0);
        check.same("set again with its bell", x.sign(0), 'o');
    }
}
