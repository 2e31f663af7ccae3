/** Promises 9 and 10: append and clear. */
public final class PadTest {
    public static void main(String[] args) {
        Check check = new Check("PadTest");
        BentPins x = new BentPins();
        check.same("clear() of an empty pad", x.clear(), 0);
        int[] wrong = {32, 127, 0, -1, Integer.MIN_VALUE, Integer.MAX_VALUE};
        for (int code : wrong) {
            check.same("append(" + code + ")", x.append(code), BentPins.INVALID_ARGUMENT);
        }
        check.same("length", x.count(17), 0);
        check.same("append(33)", x.append(33), 1);
        check.same("append(126)", x.append(126), 2);
        for (int i = 3; i <= 60; i++) {
            check.same("append(48)", x.append(48), i);
        }
        check.same("append(48)", x.append(48), BentPins.LIMIT_REACHED);
        check.same("append(32)", x.append(32), BentPins.INVALID_ARGUMENT);
        check.same("append(127)", x.append(127), BentPins.INVALID_ARGUMENT);
        check.same("length", x.count(17), 60);
        check.same("no change", x.count(18), 0);
        check.same("clear()", x.clear(), 60);
        check.same("length", x.count(17), 0);
        check.same("no change", x.count(18), 0);
        check.same("append('3')", x.append('3'), 1);
        check.same("what was before is gone", x.fault(1), BentPins.NOT_FOUND);
        x.pull(2);
        x.save();
        x.append('!');
        x.undo();
        check.same("undo leaves the pad", x.count(17), 2);
        x.restore();
        check.same("restore leaves the pad", x.count(17), 2);
        check.end();
    }
}
