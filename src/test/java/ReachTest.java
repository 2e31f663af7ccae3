/** Promise 18: reach. */
public final class ReachTest {
    private static final Check check = new Check("ReachTest");

    public static void main(String[] args) {
        BentPins x = new BentPins();
        int[] wrong = {-1, 2, Integer.MIN_VALUE, Integer.MAX_VALUE};
        for (int way : wrong) {
            check.same("reach(" + way + ")", x.reach(way), BentPins.INVALID_ARGUMENT);
        }
        due("straight", x, 127);
        x.set(BentPins.TILT, 0);
        due("tilted to the left", x, 3);
        x.set(BentPins.TILT, 2);
        due("tilted to the right", x, 96);
        due("bent to the left", Boards.of(Boards.rows("<<<<<")), 3);
        due("bent to the right", Boards.of(Boards.rows(">>>>>")), 96);
        due("there and back", Boards.of(Boards.rows("<<>>.")), 124);
        due("no pins", Boards.of(Boards.rows(".....")), 127);
        due("a wall at the right", Boards.of(Boards.rows("....<")), 63);
        due("two walls", Boards.of(Boards.rows("....|").substring(0, 28) + "<<<.>>>"), 1 + 2 + 8 + 32 + 64);
        sidesDoNotMatter();
        fullPocketsDoNotMatter();
        check.end();
    }

    private static void due(String board, BentPins x, int pockets) {
        check.same("reach(0), " + board, x.reach(0), pockets);
        check.same("reach(1), " + board, x.reach(1), pockets);
        check.same("count(9), " + board, x.count(9), Integer.bitCount(pockets));
    }

    private static void sidesDoNotMatter() {
        BentPins x = Boards.of(Boards.rows("....|").substring(0, 28) + "|......");
        due("one straight pin", x, 127);
        x.shoot(0, false);
        due("its other side", x, 127);
        x.bend(28, false);
        due("bent to the left", x, 127);
        x.bend(29, true);
        x.pull(29);
        x.bend(29, true);
        due("the next one bent to the right", x, 125);
    }

    private static void fullPocketsDoNotMatter() {
        BentPins x = Boards.of(Boards.rows("....."));
        Boards.shootAll(x, 3, false);
        due("a full pocket and no balls", x, 127);
    }
}
