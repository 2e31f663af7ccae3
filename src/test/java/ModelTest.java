/** Promises 1 to 27: long runs of calls, answered by the class and by the model, must be answered alike. */
public final class ModelTest {
    private static final int RUNS = 900;
    /** What is answered behind the 512th call is free. */
    private static final int CALLS = 512;
    private static final int CALLS_OF_ALL_LOOKS = 310;
    private static final int LONGEST_WRITING = 64;
    private static final int[] WRONG = {-1, Integer.MIN_VALUE, Integer.MAX_VALUE};
    private static final String[] PARTS = {"e", "0", "1!", "2", "3!", "4", "5!", "6", "3", "0!", "6!"};

    private final Check check;
    private final int run;
    private long seed;
    private BentPins x;
    private Model model;

    private ModelTest(Check check, int run) {
        this.check = check;
        this.run = run;
        seed = run * 7919L + 17;
        x = new BentPins();
        model = new Model();
    }

    public static void main(String[] args) {
        Check check = new Check("ModelTest");
        for (int run = 0; run < RUNS; run++) {
            new ModelTest(check, run).play();
        }
        check.end();
    }

    /** The same numbers each time: no test may depend on chance. */
    private int below(int limit) {
        seed = seed * 6364136223846793005L + 1442695040888963407L;
        return (int) ((seed >>> 33) % limit);
    }

    /** Mostly a number in the range, sometimes one beside it or far from it. */
    private int about(int least, int most) {
        int kind = below(40);
        if (kind == 0) {
            return least - 1;
        }
        if (kind == 1) {
            return most + 1;
        }
        return kind == 2 ? WRONG[below(WRONG.length)] : least + below(most - least + 1);
    }

    private boolean yes() {
        return below(2) == 1;
    }

    private void due(String call, long got, long due) {
        check.same("run " + run + ": " + call, got, due);
    }

    /** One run in five ends with all looks, the others go on with deeds as long as calls are left. */
    private void play() {
        boolean looksLast = run % 5 == 0;
        int most = CALLS - LONGEST_WRITING - (looksLast ? CALLS_OF_ALL_LOOKS : 0);
        int calls = 0;
        while (calls < most) {
            int kind = below(run % 3 == 0 ? 12 : 30);
            if (kind < 12) {
                deed(kind);
                calls++;
            } else if (kind < 14) {
                calls += write(run % 2 == 0 ? boardText() : shotsText());
            } else {
                look(kind);
                calls++;
            }
        }
        if (looksLast) {
            lookAtAll();
        }
    }

    private void deed(int kind) {
        int a = about(0, 34);
        int b = about(0, 6);
        boolean yes = yes();
        switch (kind) {
            case 0, 1, 2, 3 -> due("shoot " + b + " " + yes, x.shoot(b, yes), model.shoot(b, yes));
            case 4, 5 -> due("bend " + a + " " + yes, x.bend(a, yes), model.bend(a, yes));
            case 6 -> due("pull " + a, x.pull(a), model.pull(a));
            case 7 -> due("bell " + a, x.bell(a), model.bell(a));
            case 8 -> {
                int worth = about(0, 9);
                due("worth " + b + " " + worth, x.worth(b, worth), model.worth(b, worth));
            }
            case 9 -> {
                int what = about(0, 1);
                int value = about(0, what == 0 ? 2 : 9);
                due("set " + what + " " + value, x.set(what, value), model.set(what, value));
            }
            case 10 -> {
                if (below(4) == 0) {
                    due("empty", x.empty(), model.empty());
                } else {
                    due("undo", x.undo(), model.undo());
                }
            }
            default -> {
                if (yes) {
                    due("save", x.save(), model.save());
                } else {
                    due("restore", x.restore(), model.restore());
                }
            }
        }
    }

    private void look(int kind) {
        int pin = about(0, 34);
        int place = about(0, 6);
        int what = about(0, 4);
        int way = about(0, 1);
        boolean yes = yes();
        switch (kind) {
            case 14, 15 -> due("pin " + pin + " " + what, x.pin(pin, what), model.pin(pin, what));
            case 16, 17 -> due("pocket " + place + " " + what, x.pocket(place, what), model.pocket(place, what));
            case 18 -> due("reach " + way, x.reach(way), model.reach(way));
            case 19 -> due("ways " + place + " " + way, x.ways(place, way), model.ways(place, way));
            case 20, 21, 22 -> {
                int number = about(0, 18);
                due("count " + number, x.count(number), model.count(number));
            }
            case 23 -> check.sameDouble("run " + run + ": mean", x.mean(), model.mean());
            case 24 -> due("ends " + place, x.ends(place), model.ends(place));
            case 25 -> {
                int shots = about(1, 20);
                int which = about(0, 2);
                due("ifShot " + place + " " + yes + " " + shots + " " + which,
                    x.ifShot(place, yes, shots, which), model.ifShot(place, yes, shots, which));
            }
            case 26 -> due("best " + yes, x.best(yes), model.best(yes));
            case 27 -> due("why " + what, x.why(what), model.why(what));
            case 28 -> due("sign " + pin, x.sign(pin), model.sign(pin));
            default -> due("fault " + way, x.fault(way), model.fault(way));
        }
    }

    private String boardText() {
        int length = below(5) == 0 ? 30 + below(12) : 35;
        StringBuilder text = new StringBuilder();
        for (int i = 0; i < length; i++) {
            text.append("<|>.o||".charAt(below(7)));
        }
        return spoilt(text);
    }

    private String shotsText() {
        StringBuilder text = new StringBuilder(PARTS[below(PARTS.length)]);
        int parts = below(26);
        for (int i = 0; i < parts; i++) {
            text.append(',').append(PARTS[i > 0 && below(3) > 0 ? 1 + below(10) : below(11)]);
        }
        return spoilt(text);
    }

    private String spoilt(StringBuilder text) {
        if (below(4) == 0) {
            text.setCharAt(below(text.length()), "0!,e7<o.|~".charAt(below(10)));
        }
        return text.toString();
    }

    /** Returns how many calls that took. */
    private int write(String text) {
        int calls = 4;
        if (below(5) > 0) {
            due("clear", x.clear(), model.clear());
        }
        for (int i = 0; i < text.length(); i++) {
            int code = below(200) == 0 ? about(33, 126) : text.charAt(i);
            due("append " + code, x.append(code), model.append(code));
            calls++;
        }
        due("fault 0", x.fault(0), model.fault(0));
        due("fault 1", x.fault(1), model.fault(1));
        if (run % 2 == 0) {
            due("board", x.board(), model.board());
        } else {
            due("shots", x.shots(), model.shots());
        }
        return calls;
    }

    private void lookAtAll() {
        for (int what = 0; what <= 18; what++) {
            due("count " + what, x.count(what), model.count(what));
        }
        for (int pin = 0; pin < 35; pin++) {
            due("sign " + pin, x.sign(pin), model.sign(pin));
            for (int what = 0; what <= 4; what++) {
                due("pin " + pin + " " + what, x.pin(pin, what), model.pin(pin, what));
            }
        }
        for (int pocket = 0; pocket < 7; pocket++) {
            for (int what = 0; what <= 4; what++) {
                due("pocket " + pocket + " " + what, x.pocket(pocket, what), model.pocket(pocket, what));
            }
            due("ways " + pocket, x.ways(pocket, 0), model.ways(pocket, 0));
            due("ways " + pocket, x.ways(pocket, 1), model.ways(pocket, 1));
            due("ends " + pocket, x.ends(pocket), model.ends(pocket));
        }
        due("reach 0", x.reach(0), model.reach(0));
        due("reach 1", x.reach(1), model.reach(1));
        due("best", x.best(true), model.best(true));
        for (int what = 0; what <= 2; what++) {
            due("why " + what, x.why(what), model.why(what));
        }
        check.sameDouble("mean", x.mean(), model.mean());
    }
}
