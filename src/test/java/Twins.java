import java.util.function.Function;

/** Tells whether a call left everything as it was: beside an object that had the same calls, but for this one. */
final class Twins {
    /** One or more calls of an object. */
    interface Calls {
        void on(BentPins x);
    }

    private Twins() {
    }

    /** Each look has two fresh objects of its own, for it changes them, and none may have more than 512 calls. */
    static void leavesAll(Check check, String what, Calls before, Calls call) {
        leaves(check, what + " leaves what the looks tell", before, call, Boards::state);
        leaves(check, what + " leaves the pad", before, call, Twins::pad);
        leaves(check, what + " leaves the pad, read as a board", before, call, Twins::padAsBoard);
        leaves(check, what + " leaves the pad, read as shots", before, call, Twins::padAsShots);
        leaves(check, what + " leaves why()", before, call, Twins::why);
        leaves(check, what + " leaves the history", before, call, Twins::history);
        leaves(check, what + " leaves the snapshot", before, call, Twins::snapshot);
    }

    private static void leaves(Check check, String claim, Calls before, Calls call, Function<BentPins, String> look) {
        BentPins untouched = new BentPins();
        before.on(untouched);
        BentPins asked = new BentPins();
        before.on(asked);
        call.on(asked);
        check.sameText(claim, look.apply(asked), look.apply(untouched));
    }

    private static String pad(BentPins x) {
        return x.count(17) + " " + x.fault(0) + " " + x.fault(1);
    }

    private static String padAsBoard(BentPins x) {
        return x.board() + " " + Boards.brief(x);
    }

    private static String padAsShots(BentPins x) {
        return x.shots() + " " + Boards.brief(x);
    }

    static String why(BentPins x) {
        return x.why(0) + " " + x.why(1) + " " + x.why(2);
    }

    /** What is undone, state by state: 4 states are the most, and the fifth undo() finds none. */
    static String history(BentPins x) {
        StringBuilder told = new StringBuilder();
        told.append(x.count(18));
        for (int i = 0; i < 5; i++) {
            told.append(' ').append(x.undo());
            told.append(' ').append(i < 4 ? Boards.brief(x) : "");
        }
        return told.toString();
    }

    private static String snapshot(BentPins x) {
        return x.restore() + " " + Boards.state(x);
    }
}
