/** The boundary cases under the heading 'Changes and errors' on errors, and the calls that change nothing. */
public final class ErrorEdgesTest {
    private static final Check check = new Check("ErrorEdgesTest");
    private static final String[] STATES = {"a new object", "a busy object", "no balls and a full pad", "a board on the pad",
        "shots on the pad"};

    public static void main(String[] args) {
        argumentsAheadOfAll();
        limitAheadOfNothing();
        errorsAheadOfReasons();
        errorsChangeNothing();
        refusedTextsChangeNothing();
        looksChangeNothing();
        whatWouldBeChangesNothing();
        savesAndPadsAreNoChanges();
        check.end();
    }

    /** Brings a new object to one of the states, by at most some 140 calls. */
    private static void bring(BentPins x, int state) {
        if (state == 0) {
            return;
        }
        x.bell(3);
        x.pull(9);
        x.shoot(3, true);
        x.save();
        x.worth(2, 7);
        x.set(BentPins.TILT, state == 2 ? 0 : 1);
        x.bend(34, true);
        if (state == 2) {
            Boards.shots(x, "0!" + ",5".repeat(29));
            Boards.write(x, "~".repeat(60));
        } else if (state == 3) {
            Boards.write(x, "<|>.o|<".repeat(5));
        } else if (state == 4) {
            Boards.write(x, "0!,1,2,e,6!");
        }
    }

    /** A call, for its answer. */
    private interface Answer {
        int of(BentPins x);
    }

    private static void leavesAll(String what, Twins.Calls call) {
        for (int state = 0; state < STATES.length; state++) {
            leavesAll(what, call, state);
        }
    }

    private static void leavesAll(String what, Twins.Calls call, int state) {
        Twins.leavesAll(check, what + " of " + STATES[state], x -> bring(x, state), call);
    }

    /** The call returns this error in each of these states, and changes nothing. */
    private static void refused(String what, int error, Answer call, int... states) {
        for (int state : states) {
            BentPins x = new BentPins();
            bring(x, state);
            check.same(what + " of " + STATES[state], call.of(x), error);
            leavesAll(what, call::of, state);
        }
    }

    private static void wrong(String what, Answer call) {
        refused(what, BentPins.INVALID_ARGUMENT, call, 0, 1, 2, 3, 4);
    }

    private static void argumentsAheadOfAll() {
        check.sentence("Changes and errors", "If several errors apply to a call, INVALID_ARGUMENT is returned rather than "
            + "NOT_POSSIBLE, NOT_POSSIBLE rather than LIMIT_REACHED, and LIMIT_REACHED rather than NOT_FOUND;");
        BentPins x = new BentPins();
        check.same("why(3), and there was no call", x.why(3), BentPins.INVALID_ARGUMENT);
        check.same("why(-1), and there was no call", x.why(-1), BentPins.INVALID_ARGUMENT);
        check.same("why(2)", x.why(2), BentPins.NOT_FOUND);
        Boards.write(x, "|".repeat(60));
        check.same("append(32) to a full pad", x.append(32), BentPins.INVALID_ARGUMENT);
        check.same("append(127) to a full pad", x.append(127), BentPins.INVALID_ARGUMENT);
        check.same("append(33) to a full pad", x.append(33), BentPins.LIMIT_REACHED);
        Boards.write(x, "3");
        check.same("fault(2) of a pad that has none, read as shots", x.fault(2), BentPins.INVALID_ARGUMENT);
        check.same("fault(1)", x.fault(1), BentPins.NOT_FOUND);
        x.pull(0);
        check.same("pin(0, 5) of a pin that is out", x.pin(0, 5), BentPins.INVALID_ARGUMENT);
        check.same("pin(0, -1) of a pin that is out", x.pin(0, -1), BentPins.INVALID_ARGUMENT);
        check.same("pin(0, 0)", x.pin(0, 0), BentPins.NOT_FOUND);
        check.same("pin(35, 2)", x.pin(35, 2), BentPins.INVALID_ARGUMENT);
        check.same("ifShot(7, ..) without balls", ballsGone().ifShot(7, true, 1, 0), BentPins.INVALID_ARGUMENT);
    }

    private static BentPins ballsGone() {
        BentPins x = new BentPins();
        Boards.shootAll(x, 3, false);
        return x;
    }

    /** The longest pad is refused by its limit alone, whatever stands in it. */
    private static void limitAheadOfNothing() {
        String[] pads = {"0,".repeat(30), "|".repeat(60), "~".repeat(60), "3" + ",3".repeat(29) + "!"};
        for (String pad : pads) {
            BentPins x = new BentPins();
            Boards.write(x, pad);
            check.same("append('0') behind " + pad, x.append('0'), BentPins.LIMIT_REACHED);
        }
    }

    private static void errorsAheadOfReasons() {
        check.sentence("Changes and errors", "errors are looked at ahead of reasons.");
        BentPins x = ballsGone();
        check.same("shoot(7) without balls", x.shoot(7, true), BentPins.INVALID_ARGUMENT);
        check.same("shoot(-1) without balls", x.shoot(-1, false), BentPins.INVALID_ARGUMENT);
        check.same("shots() of a wrong pad without balls", Boards.shots(x, "3,"), BentPins.NOT_POSSIBLE);
        check.same("no refused deeds", x.count(14), 0);
        BentPins y = Boards.of(Boards.OPEN);
        check.same("bend(35) where all are out", y.bend(35, true), BentPins.INVALID_ARGUMENT);
        check.same("bend(-1) where all are out", y.bend(-1, true), BentPins.INVALID_ARGUMENT);
        check.same("no refused deeds", y.count(14), 0);
    }

    private static void errorsChangeNothing() {
        check.sentence("Changes and errors", "A call that returns an error changes nothing (the pad stays, too).");
        wrong("shoot(-1)", x -> x.shoot(-1, false));
        wrong("shoot(7)", x -> x.shoot(7, true));
        wrong("bend(-1)", x -> x.bend(-1, false));
        wrong("bend(35)", x -> x.bend(35, true));
        wrong("pull(-1)", x -> x.pull(-1));
        wrong("pull(35)", x -> x.pull(35));
        wrong("bell(-1)", x -> x.bell(-1));
        wrong("bell(35)", x -> x.bell(35));
        wrong("worth(-1, 5)", x -> x.worth(-1, 5));
        wrong("worth(7, 5)", x -> x.worth(7, 5));
        wrong("worth(0, -1)", x -> x.worth(0, -1));
        wrong("worth(0, 10)", x -> x.worth(0, 10));
        wrong("set(-1, 1)", x -> x.set(-1, 1));
        wrong("set(2, 1)", x -> x.set(2, 1));
        wrong("set(TILT, -1)", x -> x.set(BentPins.TILT, -1));
        wrong("set(TILT, 3)", x -> x.set(BentPins.TILT, 3));
        wrong("set(FULL, 0)", x -> x.set(BentPins.FULL, 0));
        wrong("set(FULL, 10)", x -> x.set(BentPins.FULL, 10));
        wrong("append(32)", x -> x.append(32));
        wrong("append(127)", x -> x.append(127));
        wrong("fault(-1)", x -> x.fault(-1));
        wrong("fault(2)", x -> x.fault(2));
        wrong("why(3)", x -> x.why(3));
        wrong("sign(35)", x -> x.sign(35));
        wrong("pin(35, 0)", x -> x.pin(35, 0));
        wrong("pocket(7, 0)", x -> x.pocket(7, 0));
        wrong("reach(2)", x -> x.reach(2));
        wrong("ways(7, 0)", x -> x.ways(7, 0));
        wrong("count(19)", x -> x.count(19));
        wrong("ends(7)", x -> x.ends(7));
        wrong("ifShot(7, true, 1, 0)", x -> x.ifShot(7, true, 1, 0));
        wrong("ifShot(0, true, 21, 0)", x -> x.ifShot(0, true, 21, 0));
        wrong("ifShot(0, true, 1, 3)", x -> x.ifShot(0, true, 1, 3));
    }

    private static void refusedTextsChangeNothing() {
        refused("board()", BentPins.NOT_POSSIBLE, BentPins::board, 0, 1, 2, 4);
        refused("shots()", BentPins.NOT_POSSIBLE, BentPins::shots, 0, 1, 2, 3);
        refused("append('0')", BentPins.LIMIT_REACHED, x -> x.append('0'), 2);
        refused("best(true)", BentPins.NOT_POSSIBLE, x -> x.best(true), 2);
        refused("undo()", BentPins.NOT_POSSIBLE, BentPins::undo, 0);
        refused("restore()", BentPins.NOT_POSSIBLE, BentPins::restore, 0);
        refused("why(0)", BentPins.NOT_FOUND, x -> x.why(0), 0, 1, 3, 4);
        refused("pin(9, 0)", BentPins.NOT_FOUND, x -> x.pin(9, 0), 1, 2, 3, 4);
        refused("fault(0)", BentPins.NOT_FOUND, x -> x.fault(0), 3);
        refused("fault(1)", BentPins.NOT_FOUND, x -> x.fault(1), 4);
    }

    private static void looksChangeNothing() {
        check.sentence("Changes and errors", "looks; nothing is changed.");
        leavesAll("why()", Twins::why);
        leavesAll("sign()", Boards::text);
        leavesAll("fault()", x -> {
            x.fault(0);
            x.fault(1);
        });
        leavesAll("pin()", x -> {
            for (int what = 0; what <= 4; what++) {
                x.pin(3, what);
                x.pin(9, what);
            }
        });
        leavesAll("pocket()", x -> {
            for (int what = 0; what <= 4; what++) {
                x.pocket(1, what);
            }
        });
        leavesAll("reach()", x -> {
            x.reach(0);
            x.reach(1);
        });
        leavesAll("ways()", x -> {
            x.ways(0, 0);
            x.ways(6, 1);
        });
        leavesAll("count()", x -> {
            for (int what = 0; what <= 18; what++) {
                x.count(what);
            }
        });
        leavesAll("mean()", BentPins::mean);
    }

    private static void whatWouldBeChangesNothing() {
        check.sentence("Changes and errors", "what would be; nothing is changed.");
        leavesAll("ends()", x -> {
            for (int place = 0; place < 7; place++) {
                x.ends(place);
            }
        });
        leavesAll("ifShot()", x -> {
            x.ifShot(3, true, 20, 0);
            x.ifShot(0, false, 20, 1);
            x.ifShot(6, true, 1, 2);
        });
        leavesAll("best()", x -> {
            x.best(true);
            x.best(false);
        });
    }

    /** save(), append() and clear() change only the snapshot or the pad, which the history leaves out. */
    private static void savesAndPadsAreNoChanges() {
        check.sentence("Changes and errors", "The changes are the calls of shoot, bend, pull, bell, worth, set, empty, "
            + "board, shots and restore that return no error;");
        for (int state = 0; state < STATES.length; state++) {
            BentPins x = new BentPins();
            bring(x, state);
            BentPins untouched = new BentPins();
            bring(untouched, state);
            x.save();
            x.clear();
            x.append('3');
            check.sameText("save(), clear() and append() of " + STATES[state], Twins.history(x), Twins.history(untouched));
        }
    }
}
