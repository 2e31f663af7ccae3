/** The boundary cases under the heading 'Texts', and of the promises 9 to 15 (pad, fault, board, shots, why, sign). */
public final class TextEdgesTest {
    private static final Check check = new Check("TextEdgesTest");
    /** 59 characters, 30 parts: the longest pad of shots that has no fault and ends with a place. */
    private static final String THIRTY_PARTS = "3" + ",3".repeat(29);

    public static void main(String[] args) {
        emptyAndFullPads();
        leastAndGreatestCodes();
        clearedPads();
        signsOfBoards();
        lengthsOfBoards();
        partsOfShots();
        placesOfShots();
        firstWrongCharacters();
        beyondTheLengthOfPads();
        padsThatAreNotComplete();
        padsWithoutFault();
        check.end();
    }

    private static void fault(String pad, int way, int due) {
        BentPins x = new BentPins();
        Boards.write(x, pad);
        check.same("length of " + pad, x.count(17), pad.length());
        check.same("fault(" + way + ") of " + pad, x.fault(way), due);
        check.same("the pad stays: " + pad, x.count(17), pad.length());
        check.same("fault(" + way + ") again of " + pad, x.fault(way), due);
    }

    private static void emptyAndFullPads() {
        check.sentence("Texts", "There is a pad of at most 60 characters, initially empty.");
        BentPins x = new BentPins();
        check.same("length at first", x.count(17), 0);
        for (int length = 1; length <= 60; length++) {
            check.same("append", x.append('|'), length);
        }
        check.same("length", x.count(17), 60);
        check.sentence("Promise 9", "LIMIT_REACHED if it has 60 characters.");
        check.same("a character more", x.append('|'), BentPins.LIMIT_REACHED);
        check.same("length", x.count(17), 60);
        check.same("a character more, again", x.append('0'), BentPins.LIMIT_REACHED);
        check.same("length", x.count(17), 60);
        check.same("clear()", x.clear(), 60);
        check.same("append() again", x.append('|'), 1);
        BentPins y = new BentPins();
        Boards.write(y, THIRTY_PARTS);
        check.same("the last character that there is room for", y.append('!'), 60);
        check.same("one more", y.append('~'), BentPins.LIMIT_REACHED);
        check.same("the characters stay: no fault", y.fault(1), BentPins.NOT_FOUND);
        int points = y.ifShot(3, false, 20, 0);
        check.same("they are shot, as long as balls are left", y.shots(), points);
        check.same("a pad that was read is empty", y.append('e'), 1);
    }

    private static void leastAndGreatestCodes() {
        check.sentence("Promise 9", "code: the character code, 33 to 126");
        BentPins x = new BentPins();
        check.same("append(32)", x.append(32), BentPins.INVALID_ARGUMENT);
        check.same("append(33)", x.append(33), 1);
        check.same("append(127)", x.append(127), BentPins.INVALID_ARGUMENT);
        check.same("append(126)", x.append(126), 2);
        check.same("append(0)", x.append(0), BentPins.INVALID_ARGUMENT);
        check.same("length", x.count(17), 2);
        BentPins y = new BentPins();
        Boards.write(y, "3");
        y.append(33);
        check.same("33 is written as it is", y.fault(1), BentPins.NOT_FOUND);
        y.append(126);
        check.same("126 is no sign of shots", y.fault(1), 2);
    }

    private static void clearedPads() {
        check.sentence("Promise 10", "Returns the length that it had.");
        BentPins x = new BentPins();
        check.same("an empty pad", x.clear(), 0);
        x.append('x');
        check.same("one character", x.clear(), 1);
        check.same("an empty pad again", x.clear(), 0);
        Boards.write(x, "|".repeat(60));
        check.same("a full pad", x.clear(), 60);
        check.same("the length", x.count(17), 0);
        check.same("the fault of an empty pad", x.fault(0), 0);
    }

    private static void signsOfBoards() {
        check.sentence("Texts", "A board: 35 signs for the pins 0 to 34: \"<\" (the bend -1), \"|\" (0), \">\" (1), \".\" "
            + "(pulled out), \"o\" (0, with a bell).");
        int[] pins = {0, 34};
        String signs = "<|>.o";
        int[] bends = {2, 3, 4, BentPins.NOT_FOUND, 3};
        for (int pin : pins) {
            for (int i = 0; i < signs.length(); i++) {
                BentPins x = new BentPins();
                Boards.board(x, Boards.with(Boards.rows(">>>>>"), pin, signs.charAt(i)));
                check.same("bend of " + pin + ", " + signs.charAt(i), x.pin(pin, 0), bends[i]);
                check.same("bell of " + pin + ", " + signs.charAt(i), x.pin(pin, 1), i == 4 ? 1 : 0);
                check.same("sign of " + pin, x.sign(pin), signs.charAt(i));
                check.same("sign of its neighbour", x.sign(pin == 0 ? 1 : 33), '>');
            }
        }
        for (char wrong : "O-/\\{}=?Il:,;n".toCharArray()) {
            fault(Boards.with(Boards.STRAIGHT, 0, wrong), 0, 0);
            fault(Boards.with(Boards.STRAIGHT, 34, wrong), 0, 34);
        }
    }

    private static void lengthsOfBoards() {
        fault(Boards.STRAIGHT.substring(1), 0, 34);
        fault(Boards.STRAIGHT, 0, BentPins.NOT_FOUND);
        fault(Boards.STRAIGHT + "|", 0, 35);
        fault(Boards.STRAIGHT + "|".repeat(25), 0, 35);
        fault(Boards.STRAIGHT + "x", 0, 35);
    }

    private static void partsOfShots() {
        check.sentence("Texts", "Shots: one or more parts with \",\" between two:");
        fault("", 1, 0);
        fault("e", 1, BentPins.NOT_FOUND);
        fault("e,e", 1, BentPins.NOT_FOUND);
        fault(THIRTY_PARTS, 1, BentPins.NOT_FOUND);
        fault(",", 1, 0);
        fault(",e", 1, 0);
        fault("e,", 1, 2);
        fault("e,,e", 1, 2);
        fault("ee", 1, 1);
        fault("33", 1, 1);
        fault("3!3", 1, 2);
        fault("3.3", 1, 1);
        fault("3;3", 1, 1);
    }

    private static void placesOfShots() {
        check.sentence("Texts", "a digit 0 to 6 (a soft shot to this place), perhaps with \"!\" behind it (a hard one), or "
            + "\"e\" (the pockets are emptied).");
        for (int place = 0; place <= 6; place++) {
            fault("" + place, 1, BentPins.NOT_FOUND);
            fault(place + "!", 1, BentPins.NOT_FOUND);
            fault(place + "!!", 1, 2);
            fault(place + "e", 1, 1);
        }
        fault("/", 1, 0);
        fault("7", 1, 0);
        fault("9", 1, 0);
        fault("!3", 1, 0);
        fault("3,!", 1, 2);
        fault("e!", 1, 1);
        fault("e3", 1, 1);
        fault("d", 1, 0);
        fault("f", 1, 0);
        fault("E", 1, 0);
        for (int place = 0; place <= 6; place += 6) {
            BentPins x = Boards.of(Boards.rows("|...."));
            Boards.shots(x, place + "");
            check.same("a soft shot to " + place, x.pin(place, 3), 1);
            check.same("it does not bend", x.pin(place, 0), 3);
            Boards.shots(x, place + "!");
            check.same("a hard shot to " + place, x.pin(place, 3), 2);
            check.same("it bends", x.pin(place, 0), 4);
            Boards.shots(x, "e");
            check.same("emptied", x.count(1), 20);
        }
    }

    private static void firstWrongCharacters() {
        check.sentence("Texts", "The fault of the pad, read in one of these ways, is the position, from 0, of the first "
            + "character that is wrong:");
        fault("x", 0, 0);
        fault("x", 1, 0);
        fault("|x|x", 0, 1);
        fault("3,x,7", 1, 2);
        fault(Boards.with("|".repeat(60), 34, '!'), 0, 34);
        fault(Boards.STRAIGHT, 1, 0);
        fault("3,3", 0, 0);
        fault(THIRTY_PARTS + "3", 1, 59);
        fault(THIRTY_PARTS + "e", 1, 59);
        fault(THIRTY_PARTS.substring(0, 58) + "7", 1, 58);
    }

    private static void beyondTheLengthOfPads() {
        check.sentence("Texts", "no pad of that kind, of any length, begins with the characters before it and this "
            + "character;");
        fault("0,".repeat(30), 1, 60);
        fault("e,".repeat(30), 1, 60);
        fault("e," + "6!,".repeat(19) + "5", 1, BentPins.NOT_FOUND);
        fault("6!,".repeat(20), 1, 60);
        fault("6!,".repeat(19) + "e,,", 1, 59);
    }

    private static void padsThatAreNotComplete() {
        check.sentence("Texts", "if there is none, and the pad is not complete (also if it is empty), the length of the "
            + "pad.");
        fault("", 0, 0);
        fault("", 1, 0);
        for (int length = 1; length <= 34; length++) {
            fault("o".repeat(length), 0, length);
        }
        fault("3,", 1, 2);
        fault("3!,", 1, 3);
        fault("e,", 1, 2);
    }

    private static void padsWithoutFault() {
        check.sentence("Promise 11", "NOT_FOUND if it has none.");
        fault(Boards.rows("<|>.o"), 0, BentPins.NOT_FOUND);
        fault("0!", 1, BentPins.NOT_FOUND);
        fault(THIRTY_PARTS, 1, BentPins.NOT_FOUND);
        fault(THIRTY_PARTS + "!", 1, BentPins.NOT_FOUND);
    }
}
