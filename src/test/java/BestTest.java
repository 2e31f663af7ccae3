/** Promise 24: best. */
public final class BestTest {
    private static final Check check = new Check("BestTest");

    public static void main(String[] args) {
        byPoints();
        byReach();
        byPlace();
        withoutBalls();
        check.end();
    }

    private static void byPoints() {
        BentPins x = Boards.of(Boards.rows("....."));
        check.same("the lowest of 0 and 6", x.best(false), 0);
        x.worth(4, 9);
        check.same("the highest worth", x.best(false), 4);
        x.worth(5, 9);
        check.same("the lowest of 4 and 5", x.best(true), 4);
        x.pull(13);
        x.bell(13);
        check.same("its bell, and to 5", x.best(false), 6);
        x.set(BentPins.TILT, 2);
        check.same("its bell, and to 6", x.best(false), 4);
        x.set(BentPins.FULL, 1);
        x.shoot(4, false);
        check.same("4 is full", x.best(false), 5);
        String before = Boards.state(x);
        x.best(true);
        check.holds("nothing is changed", before.equals(Boards.state(x)));
        check.same("history", x.count(18), 4);
    }

    /** A hard ball from 0 closes the pocket 1; all places bring the same. */
    private static void byReach() {
        BentPins x = Boards.of(Boards.rows("....|").substring(0, 28) + "|>.....");
        for (int pocket = 0; pocket < 7; pocket++) {
            x.worth(pocket, 5);
        }
        check.same("hard: more can be reached behind 1", x.best(true), 1);
        check.same("soft: the lowest", x.best(false), 0);
        x.worth(0, 6);
        check.same("points go first", x.best(true), 0);
    }

    private static void byPlace() {
        BentPins x = new BentPins();
        check.same("best(false)", x.best(false), 0);
        for (int pocket = 0; pocket < 7; pocket++) {
            x.worth(pocket, 0);
        }
        check.same("nothing to gain", x.best(false), 0);
        check.same("nothing to gain", x.best(true), 0);
        x.bell(6);
        check.same("a bell at 6", x.best(true), 6);
    }

    private static void withoutBalls() {
        BentPins x = new BentPins();
        Boards.shootAll(x, 1, false);
        check.same("best(false)", x.best(false), BentPins.NOT_POSSIBLE);
        check.same("best(true)", x.best(true), BentPins.NOT_POSSIBLE);
        check.same("no refused deeds", x.count(14), 0);
        x.undo();
        check.holds("one ball is left", x.best(true) >= 0);
    }
}
