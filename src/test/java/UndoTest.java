/** Promise 25: undo. */
public final class UndoTest {
    private static final Check check = new Check("UndoTest");

    public static void main(String[] args) {
        eachChange();
        whatIsNoChange();
        fourStates();
        snapshotStays();
        check.end();
    }

    /** Makes the change of this number: one of each kind, those that are refused, too. */
    private static void change(BentPins x, int kind) {
        switch (kind) {
            case 0 -> x.shoot(3, true);
            case 1 -> x.bend(5, true);
            case 2 -> x.pull(5);
            case 3 -> x.bell(12);
            case 4 -> x.worth(2, 8);
            case 5 -> x.set(BentPins.TILT, 0);
            case 6 -> x.set(BentPins.FULL, 1);
            case 7 -> x.empty();
            case 8 -> Boards.board(x, Boards.rows("<>.o|"));
            case 9 -> Boards.shots(x, "1!,e,2");
            case 10 -> x.restore();
            case 11 -> x.bend(33, false);
            default -> x.shoot(6, false);
        }
    }

    private static void eachChange() {
        for (int kind = 0; kind <= 12; kind++) {
            BentPins x = new BentPins();
            x.save();
            x.shoot(2, true);
            x.pull(33);
            x.worth(6, 0);
            x.set(BentPins.TILT, 2);
            x.bell(7);
            x.shoot(1, true);
            String before = Boards.brief(x);
            change(x, kind);
            check.same("one state more, at most 4", x.count(18), 4);
            check.holds("something is different, " + kind, !before.equals(Boards.brief(x)));
            check.same("undo() of " + kind, x.undo(), 3);
            check.sameText("all is as it was before " + kind, Boards.brief(x), before);
            change(x, kind);
            check.same("made again, " + kind, x.count(18), 4);
        }
    }

    private static void whatIsNoChange() {
        BentPins x = new BentPins();
        x.append('3');
        x.clear();
        x.fault(0);
        x.board();
        x.shots();
        x.why(0);
        x.sign(0);
        x.pin(0, 0);
        x.pocket(0, 0);
        x.reach(0);
        x.ways(0, 1);
        x.count(0);
        x.mean();
        x.ends(0);
        x.ifShot(0, true, 1, 0);
        x.best(true);
        x.undo();
        x.restore();
        x.save();
        check.same("no states", x.count(18), 0);
        x.set(BentPins.TILT, 1);
        check.same("a change that makes nothing different", x.count(18), 1);
        x.restore();
        check.same("restore() is a change", x.count(18), 2);
        check.same("undo()", x.undo(), 1);
        check.same("undo()", x.undo(), 0);
        check.same("undo()", x.undo(), BentPins.NOT_POSSIBLE);
    }

    private static void fourStates() {
        BentPins x = new BentPins();
        for (int i = 0; i < 4; i++) {
            x.worth(0, i);
            check.same("states", x.count(18), i + 1);
        }
        x.worth(0, 9);
        check.same("the oldest is dropped", x.count(18), 4);
        x.worth(0, 8);
        int[] before = {9, 3, 2, 1};
        for (int i = 0; i < 4; i++) {
            check.same("undo()", x.undo(), 3 - i);
            check.same("worth then", x.pocket(0, 0), before[i]);
        }
        check.same("undo()", x.undo(), BentPins.NOT_POSSIBLE);
        x.worth(0, 5);
        check.same("undo() again", x.undo(), 0);
        check.same("worth then", x.pocket(0, 0), 1);
    }

    private static void snapshotStays() {
        BentPins x = new BentPins();
        x.worth(0, 5);
        x.save();
        x.append('!');
        x.undo();
        check.same("the pad stays", x.count(17), 1);
        check.same("worth", x.pocket(0, 0), 4);
        x.restore();
        check.same("the snapshot stayed", x.pocket(0, 0), 5);
        x.undo();
        check.same("undone", x.pocket(0, 0), 4);
        check.same("no states", x.count(18), 0);
    }
}
