/** Promise 16: pin. */
public final class PinTest {
    private static final Check check = new Check("PinTest");

    public static void main(String[] args) {
        wrongArguments();
        properties();
        visits();
        openPins();
        check.end();
    }

    private static void wrongArguments() {
        BentPins x = new BentPins();
        x.pull(3);
        int[][] wrong = {{-1, 0}, {35, 0}, {0, -1}, {0, 5}, {3, 5}, {3, -1},
            {Integer.MIN_VALUE, 4}, {Integer.MAX_VALUE, 4}, {4, Integer.MAX_VALUE}, {4, Integer.MIN_VALUE}};
        for (int[] pair : wrong) {
            check.same("pin(" + pair[0] + ", " + pair[1] + ")", x.pin(pair[0], pair[1]), BentPins.INVALID_ARGUMENT);
        }
    }

    private static void properties() {
        BentPins x = new BentPins();
        for (int i = 1; i <= 3; i++) {
            x.bend(20, true);
            x.bend(21, false);
            check.same("pin(20, 0)", x.pin(20, 0), 3 + i);
            check.same("pin(21, 0)", x.pin(21, 0), 3 - i);
        }
        x.bell(21);
        check.same("pin(21, 1)", x.pin(21, 1), 1);
        check.same("pin(20, 1)", x.pin(20, 1), 0);
        x.shoot(2, false);
        check.same("pin(2, 2)", x.pin(2, 2), 1);
        x.pull(21);
        check.same("pulled out: bend", x.pin(21, 0), BentPins.NOT_FOUND);
        check.same("pulled out: bell", x.pin(21, 1), 1);
        check.same("pulled out: side", x.pin(21, 2), BentPins.NOT_FOUND);
    }

    private static void visits() {
        BentPins x = Boards.of(Boards.rows("....."));
        x.shoot(4, false);
        x.shoot(4, true);
        check.same("came while it is pulled out", x.pin(4, 3), 2);
        check.same("came to the last row", x.pin(32, 3), 2);
        check.same("did not come", x.pin(5, 3), 0);
        x.pull(4);
        check.same("the count stays when it is set", x.pin(4, 3), 2);
        x.shoot(4, false);
        check.same("one more", x.pin(4, 3), 3);
        check.same("now at its left", x.pin(10, 3), 1);
        x.empty();
        check.same("so far, also behind empty()", x.pin(4, 3), 3);
        x.ends(4);
        x.ifShot(4, true, 3, 0);
        x.best(true);
        check.same("balls that would come are none", x.pin(4, 3), 3);
    }

    private static void openPins() {
        BentPins x = Boards.of(Boards.rows("<<<<<"));
        for (int row = 0; row < 5; row++) {
            for (int place = 0; place < 7; place++) {
                check.same("pin(" + (7 * row + place) + ", 4)", x.pin(7 * row + place, 4), place <= 6 - row ? 1 : 0);
            }
        }
        BentPins y = Boards.of(Boards.rows(">>>>>"));
        for (int row = 0; row < 5; row++) {
            for (int place = 0; place < 7; place++) {
                check.same("pin(" + (7 * row + place) + ", 4)", y.pin(7 * row + place, 4), place >= row ? 1 : 0);
            }
        }
        y.set(BentPins.TILT, 0);
        check.same("the tilt does not matter to bent pins", y.pin(34, 4), 1);
        check.same("the tilt does not matter to bent pins", y.pin(28, 4), 0);
        BentPins z = Boards.of(Boards.rows(".....").substring(0, 7) + "|.>.|.|" + Boards.STRAIGHT.substring(14));
        int[] level = {1, 1, 0, 1, 0, 1, 1};
        int[] tilted = {0, 1, 0, 1, 0, 1, 1};
        for (int place = 0; place < 7; place++) {
            check.same("level, pin(" + (14 + place) + ", 4)", z.pin(14 + place, 4), level[place]);
        }
        z.set(BentPins.TILT, 2);
        for (int place = 0; place < 7; place++) {
            check.same("tilted, pin(" + (14 + place) + ", 4)", z.pin(14 + place, 4), tilted[place]);
        }
    }
}
