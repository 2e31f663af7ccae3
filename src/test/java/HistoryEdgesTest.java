/** The boundary cases under the heading 'Changes and errors' on the history, and of the promises 25 to 27. */
public final class HistoryEdgesTest {
    private static final Check check = new Check("HistoryEdgesTest");
    private static final String[] CHANGES = {"shoot, soft", "shoot, hard", "bend, left", "bend, right", "pull out", "set again",
        "bell", "bell away", "worth", "set tilt", "set full", "empty", "board", "shots", "restore"};

    public static void main(String[] args) {
        eachChange();
        refusedDeedsAreChanges();
        changesOfNothing();
        fourStates();
        whatIsNotRecorded();
        padStaysUndone();
        noChangeToTakeBack();
        statesAfterUndo();
        oneSnapshot();
        noSnapshot();
        snapshotStays();
        whatSnapshotsLeaveOut();
        check.end();
    }

    private static void change(BentPins x, int kind) {
        switch (kind) {
            case 0 -> x.shoot(3, false);
            case 1 -> x.shoot(3, true);
            case 2 -> x.bend(34, false);
            case 3 -> x.bend(0, true);
            case 4 -> x.pull(34);
            case 5 -> x.pull(33);
            case 6 -> x.bell(34);
            case 7 -> x.bell(32);
            case 8 -> x.worth(6, 9);
            case 9 -> x.set(BentPins.TILT, 2);
            case 10 -> x.set(BentPins.FULL, 9);
            case 11 -> x.empty();
            case 12 -> Boards.board(x, Boards.rows("<>.o|"));
            case 13 -> Boards.shots(x, "0!,6");
            default -> x.restore();
        }
    }

    /** An object with three states, which each of the changes makes different. */
    private static BentPins ready() {
        BentPins x = new BentPins();
        x.save();
        x.pull(33);
        x.bell(32);
        x.shoot(0, false);
        return x;
    }

    private static void eachChange() {
        check.sentence("Changes and errors", "The changes are the calls of shoot, bend, pull, bell, worth, set, empty, "
            + "board, shots and restore that return no error;");
        for (int kind = 0; kind < CHANGES.length; kind++) {
            BentPins x = ready();
            String before = Boards.brief(x);
            check.same("states before", x.count(18), 3);
            change(x, kind);
            check.same("one state more by " + CHANGES[kind], x.count(18), 4);
            check.holds(CHANGES[kind] + " makes something different", !before.equals(Boards.brief(x)));
            check.same("undo() of " + CHANGES[kind], x.undo(), 3);
            check.sameText("all is as it was before " + CHANGES[kind], Boards.state(x), Boards.state(ready()));
        }
    }

    private static void refusedDeedsAreChanges() {
        check.sentence("Changes and errors", "what is refused for a reason is one, too (it is counted).");
        BentPins x = new BentPins();
        Boards.bendBy(x, 5, -3);
        check.same("states", x.count(18), 3);
        x.bend(5, false);
        check.same("a bend too far is a change", x.count(18), 4);
        check.same("it is counted", x.count(14), 1);
        check.same("it is undone", x.undo(), 3);
        check.same("it is not counted then", x.count(14), 0);
        check.same("the bend stays", x.pin(5, 0), 0);
        BentPins y = new BentPins();
        y.pull(5);
        y.bend(5, true);
        check.same("a bend of no pin is a change", y.count(18), 2);
        check.same("it is counted", y.count(14), 1);
        check.same("it is undone", y.undo(), 1);
        check.same("it is not counted then", y.count(14), 0);
        BentPins z = new BentPins();
        Boards.shots(z, "3" + ",3".repeat(19));
        z.shoot(3, true);
        check.same("a shot without balls is a change", z.count(18), 2);
        check.same("it is counted", z.count(14), 1);
        check.same("it is undone", z.undo(), 1);
        check.same("it is not counted then", z.count(14), 0);
    }

    private static void changesOfNothing() {
        check.sentence("Changes and errors", "each change records everything before it but the pad, the snapshot and why() "
            + "(also if nothing is different then),");
        BentPins x = new BentPins();
        x.set(BentPins.TILT, 1);
        check.same("the same tilt", x.count(18), 1);
        x.set(BentPins.FULL, 3);
        check.same("the same FULL", x.count(18), 2);
        x.worth(0, 4);
        check.same("the same worth", x.count(18), 3);
        x.empty();
        check.same("nothing to empty", x.count(18), 4);
        for (int left = 3; left >= 0; left--) {
            check.same("undo()", x.undo(), left);
        }
        Boards.board(x, Boards.STRAIGHT);
        check.same("the same board", x.count(18), 1);
        Boards.shots(x, "e");
        check.same("nothing to empty by a pad", x.count(18), 2);
        x.save();
        x.restore();
        check.same("the same snapshot", x.count(18), 3);
    }

    private static void fourStates() {
        check.sentence("Changes and errors", "A history of at most 4 states is kept:");
        BentPins x = new BentPins();
        for (int worth = 0; worth <= 9; worth++) {
            check.same("states", x.count(18), Math.min(4, worth));
            x.worth(3, worth);
        }
        check.same("states", x.count(18), 4);
        check.sentence("Changes and errors", "and if there are 5 states then, the oldest one is dropped.");
        for (int left = 3; left >= 0; left--) {
            check.same("undo()", x.undo(), left);
            check.same("the worth then", x.pocket(3, 0), 5 + left);
        }
        check.same("older ones are dropped", x.undo(), BentPins.NOT_POSSIBLE);
        check.same("the worth then", x.pocket(3, 0), 5);
        BentPins y = new BentPins();
        for (int pin = 0; pin < 5; pin++) {
            y.pull(pin);
        }
        for (int i = 0; i < 4; i++) {
            y.undo();
        }
        check.same("of five changes the first one stays", y.count(4), 34);
        check.same("of five changes the first one stays", y.pin(0, 0), BentPins.NOT_FOUND);
        BentPins z = new BentPins();
        for (int pin = 0; pin < 4; pin++) {
            z.pull(pin);
        }
        for (int i = 0; i < 4; i++) {
            z.undo();
        }
        check.same("of four changes none stays", z.count(4), 35);
    }

    private static void whatIsNotRecorded() {
        check.sentence("Promise 25", "Undoes the latest change: everything but the pad, the snapshot and why() is as it was "
            + "before it.");
        BentPins x = new BentPins();
        x.worth(0, 5);
        x.save();
        x.worth(0, 6);
        x.undo();
        x.undo();
        check.same("undone", x.pocket(0, 0), 4);
        check.same("the snapshot is not undone", x.restore(), 0);
        check.same("the snapshot is not undone", x.pocket(0, 0), 5);
        BentPins y = new BentPins();
        Boards.shootAll(y, 0, false);
        Boards.shots(y, "e,e,3");
        Boards.shootAll(y, 0, false);
        Boards.shots(y, "0!,0");
        y.undo();
        check.same("why(0) is not undone", y.why(0), 1);
        check.same("why(2) is not undone", y.why(2), 0);
    }

    private static void padStaysUndone() {
        BentPins x = new BentPins();
        x.pull(0);
        Boards.write(x, "3");
        x.undo();
        check.same("what was written since stays", x.count(17), 1);
        check.same("shots()", x.shots(), 4);
        x.undo();
        check.same("what was read does not come back", x.count(17), 0);
        Boards.board(x, Boards.OPEN);
        x.append('6');
        x.undo();
        check.same("what was written since stays", x.count(17), 1);
        check.same("it is what was written since", x.fault(1), BentPins.NOT_FOUND);
        x.pull(0);
        x.clear();
        x.undo();
        check.same("what was cleared does not come back", x.count(17), 0);
    }

    private static void noChangeToTakeBack() {
        check.sentence("Promise 25", "Returns how many states the history has then; NOT_POSSIBLE if it has none.");
        BentPins x = new BentPins();
        check.same("a new object", x.undo(), BentPins.NOT_POSSIBLE);
        x.shoot(7, true);
        x.board();
        x.restore();
        check.same("errors are no changes", x.undo(), BentPins.NOT_POSSIBLE);
        x.append('3');
        x.save();
        x.clear();
        check.same("append(), clear() and save() are none", x.undo(), BentPins.NOT_POSSIBLE);
        x.pull(0);
        check.same("one change", x.undo(), 0);
        check.same("it is taken back", x.undo(), BentPins.NOT_POSSIBLE);
        for (int i = 0; i < 4; i++) {
            x.pull(i);
        }
        for (int left = 3; left >= 0; left--) {
            check.same("four changes", x.undo(), left);
        }
        check.same("all are taken back", x.undo(), BentPins.NOT_POSSIBLE);
        check.same("again", x.undo(), BentPins.NOT_POSSIBLE);
    }

    private static void statesAfterUndo() {
        BentPins x = new BentPins();
        for (int worth = 0; worth < 6; worth++) {
            x.worth(3, worth);
        }
        check.same("undo()", x.undo(), 3);
        check.same("undo()", x.undo(), 2);
        x.worth(3, 9);
        check.same("a change behind an undo", x.count(18), 3);
        int[] due = {3, 2, 1};
        for (int i = 0; i < due.length; i++) {
            check.same("undo()", x.undo(), 2 - i);
            check.same("the worth then", x.pocket(3, 0), due[i]);
        }
        check.same("no more", x.undo(), BentPins.NOT_POSSIBLE);
    }

    private static void oneSnapshot() {
        check.sentence("Promise 26", "Takes a snapshot of everything but the pad, the history and why(), in place of the one "
            + "that was.");
        BentPins x = new BentPins();
        check.same("no points", x.save(), 0);
        x.shoot(3, true);
        check.same("points so far", x.save(), 4);
        x.shoot(3, true);
        check.same("restore()", x.restore(), 4);
        check.same("the later snapshot", x.count(10), 1);
        x.undo();
        x.undo();
        x.undo();
        check.same("all is undone", x.count(10), 0);
        check.same("the earlier one is gone", x.restore(), 4);
        BentPins y = busy();
        y.save();
        for (int kind = 1; kind < CHANGES.length - 1; kind++) {
            change(y, kind);
        }
        y.restore();
        check.sameText("all that the looks tell", Boards.state(y), Boards.state(busy()));
    }

    private static BentPins busy() {
        BentPins x = Boards.of("<|>.o|<".repeat(5));
        x.set(BentPins.TILT, 2);
        x.set(BentPins.FULL, 1);
        x.worth(1, 8);
        Boards.shots(x, "0!,1,2!,2!,6,0");
        return x;
    }

    private static void noSnapshot() {
        check.sentence("Promise 27", "NOT_POSSIBLE if there is none.");
        BentPins x = new BentPins();
        check.same("a new object", x.restore(), BentPins.NOT_POSSIBLE);
        x.shoot(3, false);
        check.same("no snapshot was taken", x.restore(), BentPins.NOT_POSSIBLE);
        check.same("the points stay", x.count(0), 4);
        check.same("no change", x.count(18), 1);
        x.save();
        check.same("one was", x.restore(), 4);
        check.same("a change", x.count(18), 2);
    }

    private static void snapshotStays() {
        check.sentence("Promise 27", "Restores the snapshot, which stays.");
        BentPins x = new BentPins();
        x.shoot(3, true);
        x.save();
        String saved = Boards.brief(x);
        for (int i = 0; i < 4; i++) {
            x.shoot(3, true);
            x.pull(i);
            check.same("restore()", x.restore(), 4);
            check.sameText("the snapshot", Boards.brief(x), saved);
        }
        check.same("restore() at once", x.restore(), 4);
        check.same("each is a change", x.count(18), 4);
        x.undo();
        x.undo();
        check.same("two restores are undone", x.pin(3, 0), BentPins.NOT_FOUND);
        check.same("the snapshot stays", x.restore(), 4);
    }

    private static void whatSnapshotsLeaveOut() {
        BentPins x = new BentPins();
        Boards.write(x, "3,3");
        x.save();
        x.append('!');
        x.pull(0);
        x.pull(1);
        x.restore();
        check.same("the pad is not restored", x.count(17), 4);
        check.same("the history is not restored", x.count(18), 3);
        check.same("undo()", x.undo(), 2);
        check.same("what was before restore()", x.count(4), 33);
        x.clear();
        x.restore();
        check.same("the pad is not restored", x.count(17), 0);
    }
}
