/** Promises 13 and 14: shots and why. */
public final class ShotsTest {
    private static final Check check = new Check("ShotsTest");

    public static void main(String[] args) {
        wrongWhats();
        refusedPads();
        allPartsDone();
        hardParts();
        stops();
        nothingDone();
        whyIsKept();
        check.end();
    }

    private static void why(BentPins x, int reason, int part, int position) {
        check.same("why(0)", x.why(0), reason);
        check.same("why(1)", x.why(1), part);
        check.same("why(2)", x.why(2), position);
    }

    private static void noWhy(BentPins x) {
        why(x, BentPins.NOT_FOUND, BentPins.NOT_FOUND, BentPins.NOT_FOUND);
    }

    private static void wrongWhats() {
        BentPins x = new BentPins();
        int[] wrong = {-1, 3, Integer.MIN_VALUE, Integer.MAX_VALUE};
        for (int what : wrong) {
            check.same("why(" + what + ")", x.why(what), BentPins.INVALID_ARGUMENT);
        }
        noWhy(x);
        stopOnce(x);
        for (int what : wrong) {
            check.same("why(" + what + ")", x.why(what), BentPins.INVALID_ARGUMENT);
        }
    }

    /** No balls are left then, and shots() has stopped at its first part. */
    private static void stopOnce(BentPins x) {
        Boards.shootAll(x, 3, false);
        Boards.shots(x, "e,e,0");
        Boards.shootAll(x, 3, false);
        check.same("no points", Boards.shots(x, "5,3!"), 0);
        why(x, 1, 0, 0);
    }

    private static void refusedPads() {
        BentPins x = new BentPins();
        check.same("shots() of an empty pad", x.shots(), BentPins.NOT_POSSIBLE);
        check.same("an incomplete pad", Boards.shots(x, "3,"), BentPins.NOT_POSSIBLE);
        check.same("the pad stays", x.count(17), 2);
        check.same("a wrong pad", Boards.shots(x, "3,3,7"), BentPins.NOT_POSSIBLE);
        check.same("no shots", x.count(10), 0);
        check.same("history", x.count(18), 0);
        noWhy(x);
    }

    private static void allPartsDone() {
        BentPins x = new BentPins();
        check.same("two shots", Boards.shots(x, "3,3"), 8);
        check.same("shots", x.count(10), 2);
        check.same("soft ones", x.count(11), 0);
        check.same("the pad is empty", x.count(17), 0);
        check.same("one change", x.count(18), 1);
        noWhy(x);
        check.same("emptied behind a shot", Boards.shots(x, "3,e"), 2);
        check.same("left", x.count(1), 20);
        check.same("lost and in pockets", x.count(2) + x.count(3), 0);
        check.same("emptied ahead of a shot", Boards.shots(x, "e,e,3"), 2);
        check.same("points", x.count(0), 12);
        check.same("left", x.count(1), 19);
        check.same("changes", x.count(18), 3);
        x.undo();
        check.same("one undo for all parts", x.count(10), 3);
    }

    private static void hardParts() {
        BentPins x = new BentPins();
        check.same("a hard and a soft one", Boards.shots(x, "3!,3"), 8);
        check.same("hard ones", x.count(11), 1);
        check.same("bends", x.count(13), 5);
        check.same("bend of pin 3", x.pin(3, 0), 2);
        BentPins y = new BentPins();
        check.same("a soft and a hard one", Boards.shots(y, "3,3!"), 8);
        check.same("bend of pin 3", y.pin(3, 0), 4);
        BentPins w = new BentPins();
        Boards.shots(w, "e,3!");
        Boards.shots(w, "e,3");
        check.same("a soft one where a hard one stood before", w.count(11), 1);
        BentPins z = new BentPins();
        Boards.shots(z, "0,1!,2,3!,4,5!,6");
        check.same("hard ones", z.count(11), 3);
        check.same("shots", z.count(10), 7);
        for (int place = 0; place < 7; place++) {
            check.same("came to pin " + place, z.pin(place, 3), 1);
            check.same("bend of pin " + place, z.pin(place, 0), place % 2 == 1 ? 2 : 3);
        }
    }

    private static void stops() {
        BentPins x = new BentPins();
        Boards.shots(x, "0,0,0,0,0,0,0,0,0,0,0,0,0,0,0,0,0");
        check.same("three are left", x.count(1), 3);
        noWhy(x);
        Boards.shots(x, "1!,2!,3,4!,e,5,6");
        why(x, 1, 3, 8);
        check.same("not emptied behind the stop", x.count(1), 0);
        check.same("refused deeds", x.count(14), 1);
        check.same("shots", x.count(10), 20);
        check.same("the pad is empty", x.count(17), 0);
        Boards.shots(x, "e,1");
        noWhy(x);
        check.same("shots", x.count(10), 21);
    }

    private static void nothingDone() {
        BentPins x = new BentPins();
        Boards.shootAll(x, 2, true);
        check.same("no points", Boards.shots(x, "2,2"), 0);
        why(x, 1, 0, 0);
        check.same("refused once", x.count(14), 1);
        check.same("a change all the same", x.undo(), 3);
        check.same("undone", x.count(14), 0);
    }

    private static void whyIsKept() {
        BentPins x = new BentPins();
        stopOnce(x);
        x.undo();
        why(x, 1, 0, 0);
        x.save();
        x.restore();
        why(x, 1, 0, 0);
        check.same("an error", Boards.shots(x, "2,"), BentPins.NOT_POSSIBLE);
        why(x, 1, 0, 0);
        x.shoot(1, false);
        x.clear();
        why(x, 1, 0, 0);
        Boards.shots(x, "e");
        noWhy(x);
        x.undo();
        noWhy(x);
    }
}
