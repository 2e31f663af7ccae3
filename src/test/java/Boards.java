/** Makes boards that several tests use. */
final class Boards {
    static final String STRAIGHT = "|||||||||||||||||||||||||||||||||||";
    static final String OPEN = ".".repeat(35);
    static final int[] WORTHS_AT_FIRST = {4, 3, 2, 1, 2, 3, 4};

    private Boards() {
    }

    static void write(BentPins x, String text) {
        x.clear();
        for (int i = 0; i < text.length(); i++) {
            x.append(text.charAt(i));
        }
    }

    static int shots(BentPins x, String text) {
        write(x, text);
        return x.shots();
    }

    static int board(BentPins x, String text) {
        write(x, text);
        return x.board();
    }

    static BentPins of(String text) {
        BentPins x = new BentPins();
        board(x, text);
        return x;
    }

    /** A board on which each row is the same sign seven times. */
    static String rows(String fiveSigns) {
        StringBuilder text = new StringBuilder();
        for (int row = 0; row < 5; row++) {
            for (int place = 0; place < 7; place++) {
                text.append(fiveSigns.charAt(row));
            }
        }
        return text.toString();
    }

    /** A board without pins but this one, which is bent by hand. */
    static BentPins onePin(int pin, int bend) {
        BentPins x = of(OPEN);
        x.pull(pin);
        bendBy(x, pin, bend);
        return x;
    }

    static void bendBy(BentPins x, int pin, int bend) {
        for (int i = 0; i < Math.abs(bend); i++) {
            x.bend(pin, bend > 0);
        }
    }

    static String with(String board, int pin, char sign) {
        return board.substring(0, pin) + sign + board.substring(pin + 1);
    }

    static String text(BentPins x) {
        StringBuilder signs = new StringBuilder();
        for (int pin = 0; pin < 35; pin++) {
            signs.append((char) x.sign(pin));
        }
        return signs.toString();
    }

    static void shootAll(BentPins x, int place, boolean hard) {
        for (int i = 0; i < 20; i++) {
            x.shoot(place, hard);
        }
    }

    /** All that the looks tell, but for the pad, the history and why(): 228 calls. */
    static String state(BentPins x) {
        return counts(x) + pins(x, 0, 1, 2, 3, 4) + pockets(x, 0, 1, 2, 3, 4) + x.mean();
    }

    /** What a refused deed leaves: all but the number of refused deeds: 227 calls. */
    static String stateButRefusals(BentPins x) {
        StringBuilder told = new StringBuilder();
        for (int what = 0; what <= 16; what++) {
            if (what != 14) {
                told.append(x.count(what)).append(' ');
            }
        }
        return told + pins(x, 0, 1, 2, 3, 4) + pockets(x, 0, 1, 2, 3, 4) + x.mean();
    }

    /** A shorter telling of it, for tests that look often: 74 calls. */
    static String brief(BentPins x) {
        return counts(x) + text(x) + pockets(x, 0, 1, 3) + x.mean();
    }

    private static String counts(BentPins x) {
        StringBuilder told = new StringBuilder();
        for (int what = 0; what <= 16; what++) {
            told.append(x.count(what)).append(' ');
        }
        return told.toString();
    }

    private static String pins(BentPins x, int... whats) {
        StringBuilder told = new StringBuilder();
        for (int pin = 0; pin < 35; pin++) {
            for (int what : whats) {
                told.append(x.pin(pin, what)).append(' ');
            }
        }
        return told.toString();
    }

    private static String pockets(BentPins x, int... whats) {
        StringBuilder told = new StringBuilder();
        for (int pocket = 0; pocket < 7; pocket++) {
            for (int what : whats) {
                told.append(x.pocket(pocket, what)).append(' ');
            }
        }
        return told.toString();
    }
}
