/** Promises 26 and 27: save and restore. */
public final class SnapshotTest {
    public static void main(String[] args) {
        Check check = new Check("SnapshotTest");
        BentPins x = new BentPins();
        check.same("restore() without a snapshot", x.restore(), BentPins.NOT_POSSIBLE);
        check.same("no change", x.count(18), 0);
        check.same("save()", x.save(), 0);
        String first = Boards.brief(x);
        x.shoot(3, true);
        x.pull(4);
        x.bell(5);
        x.bend(6, true);
        x.worth(1, 1);
        x.set(BentPins.TILT, 2);
        x.set(BentPins.FULL, 1);
        x.append('3');
        check.same("restore()", x.restore(), 0);
        check.holds("all is as it was", first.equals(Boards.brief(x)));
        check.same("the pad stays", x.count(17), 1);
        check.same("the history goes on", x.count(18), 4);
        x.shoot(3, false);
        x.bell(9);
        String second = Boards.brief(x);
        check.same("save() in place of the first", x.save(), 4);
        check.same("save() is no change", x.count(18), 4);
        x.shoot(3, false);
        x.pull(9);
        check.same("restore()", x.restore(), 4);
        check.holds("the second snapshot", second.equals(Boards.brief(x)));
        x.shoot(6, true);
        check.same("the snapshot stays", x.restore(), 4);
        check.holds("the second snapshot", second.equals(Boards.brief(x)));
        x.undo();
        check.same("restore() is undone", x.count(10), 2);
        x.undo();
        x.undo();
        x.undo();
        check.same("nothing left to undo", x.undo(), BentPins.NOT_POSSIBLE);
        check.same("restore() still", x.restore(), 4);
        check.holds("the second snapshot", second.equals(Boards.brief(x)));
        check.end();
    }
}
