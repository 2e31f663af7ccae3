/** Makes boards that several tests use. */
final class Boards {
    static final String STRAIGHT = "|||||||||||||||||||||||||||||||||||";
    static final int[] WORTHS_AT_FIRST = {4, 3, 2, 1, 2, 3, 4};

    private Boards() {
    }

    static void write(BentPins x, String text) {
        x.clear();
        for (int i = 0; i < text.length(); i++) {
            x.append(text.charAt(i));
        }
    }

    static int shots(BentPins x, String text) {
        write(x, text);
        return x.shots();
    }

    static int board(BentPins x, String text) {
        write(x, text);
        return x.board();
    }

    static BentPins of(String text) {
        BentPins x = new BentPins();
        board(x, text);
        return x;
    }

    /** A board on which each row is the same sign seven times. */
    static String rows(String fiveSigns) {
        StringBuilder text = new StringBuilder();
        for (int row = 0; row < 5; row++) {
            for (int place = 0; place < 7; place++) {
                text.append(fiveSigns.charAt(row));
            }
        }
        return text.toString();
    }

    static String with(String board, int pin, char sign) {
        return board.substring(0, pin) + sign + board.substring(pin + 1);
    }

    static String text(BentPins x) {
        StringBuilder signs = new StringBuilder();
        for (int pin = 0; pin < 35; pin++) {
            signs.append((char) x.sign(pin));
        }
        return signs.toString();
    }

    static void shootAll(BentPins x, int place, boolean hard) {
        for (int i = 0; i < 20; i++) {
            x.shoot(place, hard);
        }
    }

    /** All that the looks tell, but for the pad, the history and why(). */
    static String state(BentPins x) {
        StringBuilder told = new StringBuilder();
        for (int what = 0; what <= 16; what++) {
            told.append(x.count(what)).append(' ');
        }
        for (int pin = 0; pin < 35; pin++) {
            for (int what = 0; what <= 4; what++) {
                told.append(x.pin(pin, what)).append(' ');
            }
        }
        for (int pocket = 0; pocket < 7; pocket++) {
            for (int what = 0; what <= 4; what++) {
                told.append(x.pocket(pocket, what)).append(' ');
            }
        }
        return told.append(x.mean()).toString();
    }
}
