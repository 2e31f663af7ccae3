/** Promise 12: board. */
public final class BoardTest {
    private static final Check check = new Check("BoardTest");

    public static void main(String[] args) {
        refused();
        read();
        whatStays();
        check.end();
    }

    private static void refused() {
        BentPins x = new BentPins();
        check.same("board() of an empty pad", x.board(), BentPins.NOT_POSSIBLE);
        check.same("too short", Boards.board(x, Boards.STRAIGHT.substring(1)), BentPins.NOT_POSSIBLE);
        check.same("the pad stays", x.count(17), 34);
        check.same("too long", Boards.board(x, Boards.rows("<<<<<") + "|"), BentPins.NOT_POSSIBLE);
        check.same("the pad stays", x.count(17), 36);
        check.same("a wrong sign", Boards.board(x, Boards.with(Boards.rows("<<<<<"), 34, 'x')), BentPins.NOT_POSSIBLE);
        check.same("nothing is bent", x.count(6), 0);
        check.same("history", x.count(18), 0);
    }

    private static void read() {
        String text = "<|>.o<|>.o<|>.o<|>.o<|>.o<|>.o<|>.o";
        BentPins x = new BentPins();
        check.same("board()", Boards.board(x, text), 28);
        check.same("the pad is empty", x.count(17), 0);
        check.same("one change", x.count(18), 1);
        check.holds("the signs are those of the pad", text.equals(Boards.text(x)));
        int[] bends = {2, 3, 4, BentPins.NOT_FOUND, 3};
        for (int pin = 0; pin < 35; pin++) {
            check.same("pin(" + pin + ", 0)", x.pin(pin, 0), bends[pin % 5]);
            check.same("pin(" + pin + ", 1)", x.pin(pin, 1), pin % 5 == 4 ? 1 : 0);
            check.same("pin(" + pin + ", 2)", x.pin(pin, 2), pin % 5 == 3 ? BentPins.NOT_FOUND : 0);
        }
        check.same("all pulled out", Boards.board(x, Boards.rows(".....")), 0);
        check.same("all bells", Boards.board(x, Boards.rows("ooooo")), 35);
        check.same("bells", x.count(7), 35);
    }

    private static void whatStays() {
        BentPins x = new BentPins();
        x.set(BentPins.FULL, 1);
        x.set(BentPins.TILT, 1);
        x.worth(0, 9);
        x.bell(3);
        x.shoot(3, true);
        x.shoot(3, true);
        x.pull(3);
        x.bell(30);
        x.pull(20);
        x.bend(25, true);
        check.same("board()", Boards.board(x, Boards.STRAIGHT), 35);
        check.same("bells are gone", x.count(7), 0);
        check.same("bends are gone", x.count(6), 0);
        check.same("straight ones", x.count(5), 35);
        for (int pin = 0; pin < 35; pin++) {
            check.same("side of " + pin, x.pin(pin, 2), 0);
        }
        check.same("points", x.count(0), 11);
        check.same("balls left", x.count(1), 18);
        check.same("in pockets", x.count(2), 1);
        check.same("lost", x.count(3), 1);
        check.same("worth", x.pocket(0, 0), 9);
        check.same("FULL", x.count(16), 1);
        check.same("came to pin 3", x.pin(3, 3), 2);
        check.same("rings", x.count(12), 2);
        check.same("bends by balls", x.count(13), 10);
        x.undo();
        check.same("undone: bells", x.count(7), 2);
        check.same("undone: pulled out", x.count(4), 33);
        check.same("undone: bend", x.pin(25, 0), 4);
        check.same("the pad stays empty", x.count(17), 0);
        x.set(BentPins.TILT, 2);
        Boards.board(x, Boards.STRAIGHT);
        check.same("the tilt stays", x.count(15), 2);
    }
}
