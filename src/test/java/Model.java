import java.util.ArrayList;
import java.util.List;
import java.util.regex.Matcher;
import java.util.regex.Pattern;

/**
 * The document told a second time, in other ways than the class: by strings, by patterns and by going
 * all ways. It keeps to no limit of speed or of room.
 */
final class Model {
    private static final Pattern BOARD = Pattern.compile("[<|>.o]{35}");
    private static final Pattern SHOTS = Pattern.compile("([0-6]!?|e)(,([0-6]!?|e))*");

    /** A pin: 'out' stands beside its bend. */
    private static final class Pin {
        int bend;
        boolean out;
        boolean bell;
        boolean right;
        int came;

        Pin copy() {
            Pin pin = new Pin();
            pin.bend = bend;
            pin.out = out;
            pin.bell = bell;
            pin.right = right;
            pin.came = came;
            return pin;
        }
    }

    private static final class State {
        final Pin[][] pins = new Pin[5][7];
        int[] worths = {4, 3, 2, 1, 2, 3, 4};
        int[] balls = new int[7];
        int[] ended = new int[7];
        int[] settings = {1, 3};
        /** Numbers by their what of count(): only those from 10 on, and the points (0) and lost ones (3). */
        int[] so = new int[15];

        State() {
            for (Pin[] row : pins) {
                for (int i = 0; i < 7; i++) {
                    row[i] = new Pin();
                }
            }
        }

        State copy() {
            State state = new State();
            for (int row = 0; row < 5; row++) {
                for (int place = 0; place < 7; place++) {
                    state.pins[row][place] = pins[row][place].copy();
                }
            }
            state.worths = worths.clone();
            state.balls = balls.clone();
            state.ended = ended.clone();
            state.settings = settings.clone();
            state.so = so.clone();
            return state;
        }

        int inPockets() {
            int sum = 0;
            for (int ball : balls) {
                sum += ball;
            }
            return sum;
        }

        int left() {
            return 20 - inPockets() - so[3];
        }

        /** "d", "l", "r" or "lr": where this pin can send a ball. */
        String sends(Pin pin) {
            if (pin.out) {
                return "d";
            }
            if (pin.bend < 0 || pin.bend == 0 && settings[0] == 0) {
                return "l";
            }
            return pin.bend > 0 || settings[0] == 2 ? "r" : "lr";
        }
    }

    private State state = new State();
    private State saved = null;
    private final List<State> history = new ArrayList<>();
    private String pad = "";
    private int[] stop = null;

    private static int to(int place, char way) {
        if (way == 'l' && place > 0) {
            return place - 1;
        }
        return way == 'r' && place < 6 ? place + 1 : place;
    }

    private static boolean bad(int value, int least, int most) {
        return value < least || value > most;
    }

    private void remember() {
        history.add(state.copy());
        if (history.size() > 4) {
            history.remove(0);
        }
    }

    private static int fly(State state, int start, boolean hard) {
        if (state.left() == 0) {
            state.so[14]++;
            return 1;
        }
        int points = 0;
        int place = start;
        for (Pin[] row : state.pins) {
            Pin pin = row[place];
            pin.came++;
            String sends = state.sends(pin);
            char way = sends.charAt(0);
            if (sends.length() == 2) {
                way = pin.right ? 'r' : 'l';
                pin.right = !pin.right;
            }
            if (way != 'd') {
                points += pin.bell ? 1 : 0;
                state.so[12] += pin.bell ? 1 : 0;
                int bend = way == 'l' ? Math.max(-3, pin.bend - 1) : Math.min(3, pin.bend + 1);
                if (hard && bend != pin.bend) {
                    pin.bend = bend;
                    state.so[13]++;
                }
            }
            place = to(place, way);
        }
        state.so[10]++;
        state.so[11] += hard ? 1 : 0;
        state.ended[place]++;
        if (state.balls[place] < state.settings[1]) {
            state.balls[place]++;
            points += state.worths[place];
        } else {
            state.so[3]++;
        }
        state.so[0] += points;
        return 10 + points;
    }

    private static void goAll(State state, int row, int place, int[] ways, boolean[] seen) {
        if (row == 5) {
            ways[place]++;
            return;
        }
        seen[7 * row + place] = true;
        for (char way : state.sends(state.pins[row][place]).toCharArray()) {
            goAll(state, row + 1, to(place, way), ways, seen);
        }
    }

    private static int[] waysFrom(State state, int place) {
        int[] ways = new int[7];
        goAll(state, 0, place, ways, new boolean[35]);
        return ways;
    }

    private static int reached(State state) {
        int set = 0;
        for (int place = 0; place < 7; place++) {
            int[] ways = waysFrom(state, place);
            for (int pocket = 0; pocket < 7; pocket++) {
                set |= ways[pocket] > 0 ? 1 << pocket : 0;
            }
        }
        return set;
    }

    private Pin pinOf(int pin) {
        return state.pins[pin / 7][pin % 7];
    }

    private int howMany(String kind) {
        int found = 0;
        for (Pin[] row : state.pins) {
            for (Pin pin : row) {
                found += switch (kind) {
                    case "out" -> pin.out ? 1 : 0;
                    case "bell" -> pin.bell ? 1 : 0;
                    case "straight" -> !pin.out && pin.bend == 0 ? 1 : 0;
                    default -> pin.out ? 0 : Math.abs(pin.bend);
                };
            }
        }
        return found;
    }

    private static int faultOf(String pad, Pattern kind) {
        for (int length = 1; length <= pad.length(); length++) {
            Matcher matcher = kind.matcher(pad.substring(0, length));
            if (!matcher.matches() && !matcher.hitEnd()) {
                return length - 1;
            }
        }
        return kind.matcher(pad).matches() ? -4 : pad.length();
    }

    int shoot(int place, boolean hard) {
        if (bad(place, 0, 6)) {
            return -1;
        }
        remember();
        return fly(state, place, hard);
    }

    int bend(int pin, boolean right) {
        if (bad(pin, 0, 34)) {
            return -1;
        }
        remember();
        Pin it = pinOf(pin);
        int then = it.bend + (right ? 1 : -1);
        if (it.out || bad(then, -3, 3)) {
            state.so[14]++;
            return it.out ? 2 : 3;
        }
        it.bend = then;
        return 10 + then + 3;
    }

    int pull(int pin) {
        if (bad(pin, 0, 34)) {
            return -1;
        }
        remember();
        Pin it = pinOf(pin);
        if (it.out) {
            it.bend = 0;
            it.right = false;
        }
        it.out = !it.out;
        if (it.out) {
            it.bend = 0;
        }
        return howMany("out");
    }

    int bell(int pin) {
        if (bad(pin, 0, 34)) {
            return -1;
        }
        remember();
        pinOf(pin).bell = !pinOf(pin).bell;
        return howMany("bell");
    }

    int worth(int pocket, int worth) {
        if (bad(pocket, 0, 6) || bad(worth, 0, 9)) {
            return -1;
        }
        remember();
        int before = state.worths[pocket];
        state.worths[pocket] = worth;
        return before;
    }

    int set(int what, int value) {
        if (bad(what, 0, 1) || bad(value, what == 0 ? 0 : 1, what == 0 ? 2 : 9)) {
            return -1;
        }
        remember();
        int before = state.settings[what];
        state.settings[what] = value;
        return before;
    }

    int empty() {
        remember();
        emptyPockets();
        return state.left();
    }

    private void emptyPockets() {
        state.balls = new int[7];
        state.so[3] = 0;
    }

    int append(int code) {
        if (bad(code, 33, 126)) {
            return -1;
        }
        if (pad.length() == 60) {
            return -3;
        }
        pad += (char) code;
        return pad.length();
    }

    int clear() {
        int length = pad.length();
        pad = "";
        return length;
    }

    int fault(int way) {
        return way == 0 ? faultOf(pad, BOARD) : way == 1 ? faultOf(pad, SHOTS) : -1;
    }

    int board() {
        if (!BOARD.matcher(pad).matches()) {
            return -2;
        }
        remember();
        for (int i = 0; i < 35; i++) {
            Pin pin = pinOf(i);
            pin.bend = "< >".indexOf(pad.charAt(i)) < 0 ? 0 : "< >".indexOf(pad.charAt(i)) - 1;
            pin.out = pad.charAt(i) == '.';
            pin.bell = pad.charAt(i) == 'o';
            pin.right = false;
        }
        pad = "";
        return 35 - howMany("out");
    }

    int shots() {
        if (!SHOTS.matcher(pad).matches()) {
            return -2;
        }
        remember();
        stop = null;
        int before = state.so[0];
        int position = 0;
        String[] parts = pad.split(",");
        for (int i = 0; i < parts.length && stop == null; i++) {
            if (parts[i].equals("e")) {
                emptyPockets();
            } else {
                int reason = fly(state, parts[i].charAt(0) - '0', parts[i].endsWith("!"));
                stop = reason < 10 ? new int[] {reason, i, position} : null;
            }
            position += parts[i].length() + 1;
        }
        pad = "";
        return state.so[0] - before;
    }

    int why(int what) {
        if (bad(what, 0, 2)) {
            return -1;
        }
        return stop == null ? -4 : stop[what];
    }

    int sign(int pin) {
        if (bad(pin, 0, 34)) {
            return -1;
        }
        Pin it = pinOf(pin);
        if (it.out) {
            return '.';
        }
        return it.bell ? 'o' : "<<<|>>>".charAt(it.bend + 3);
    }

    int pin(int pin, int what) {
        if (bad(pin, 0, 34) || bad(what, 0, 4)) {
            return -1;
        }
        Pin it = pinOf(pin);
        boolean[] seen = new boolean[35];
        for (int place = 0; place < 7; place++) {
            goAll(state, 0, place, new int[7], seen);
        }
        return switch (what) {
            case 0 -> it.out ? -4 : it.bend + 3;
            case 1 -> it.bell ? 1 : 0;
            case 2 -> it.out ? -4 : it.right ? 1 : 0;
            case 3 -> it.came;
            default -> seen[pin] ? 1 : 0;
        };
    }

    int pocket(int pocket, int what) {
        if (bad(pocket, 0, 6) || bad(what, 0, 4)) {
            return -1;
        }
        int starts = 0;
        for (int place = 0; place < 7; place++) {
            starts += waysFrom(state, place)[pocket] > 0 ? 1 : 0;
        }
        return switch (what) {
            case 0 -> state.worths[pocket];
            case 1 -> state.balls[pocket];
            case 2 -> state.balls[pocket] >= state.settings[1] ? 1 : 0;
            case 3 -> state.ended[pocket];
            default -> starts;
        };
    }

    int reach(int way) {
        return bad(way, 0, 1) ? -1 : reached(state);
    }

    int ways(int pocket, int way) {
        if (bad(pocket, 0, 6) || bad(way, 0, 1)) {
            return -1;
        }
        int all = 0;
        for (int place = 0; place < 7; place++) {
            all += waysFrom(state, place)[pocket];
        }
        return all;
    }

    int count(int what) {
        int fullOnes = 0;
        for (int ball : state.balls) {
            fullOnes += ball >= state.settings[1] ? 1 : 0;
        }
        return switch (what) {
            case 0, 3, 10, 11, 12, 13, 14 -> state.so[what];
            case 1 -> state.left();
            case 2 -> state.inPockets();
            case 4 -> 35 - howMany("out");
            case 5 -> howMany("straight");
            case 6 -> howMany("bends");
            case 7 -> howMany("bell");
            case 8 -> fullOnes;
            case 9 -> Integer.bitCount(reached(state));
            case 15, 16 -> state.settings[what - 15];
            case 17 -> pad.length();
            case 18 -> history.size();
            default -> -1;
        };
    }

    double mean() {
        return state.so[10] == 0 ? 0.0 : (double) state.so[0] / state.so[10];
    }

    int ends(int place) {
        if (bad(place, 0, 6)) {
            return -1;
        }
        State copy = state.copy();
        copy.so[3] = 0;
        copy.balls = new int[7];
        copy.ended = new int[7];
        fly(copy, place, false);
        for (int pocket = 0; pocket < 7; pocket++) {
            if (copy.ended[pocket] == 1) {
                return pocket;
            }
        }
        return -9;
    }

    int ifShot(int place, boolean hard, int shots, int what) {
        if (bad(place, 0, 6) || bad(shots, 1, 20) || bad(what, 0, 2)) {
            return -1;
        }
        State copy = state.copy();
        for (int i = Math.min(shots, copy.left()); i > 0; i--) {
            fly(copy, place, hard);
        }
        return what == 0 ? copy.so[0] - state.so[0] : what == 1 ? copy.so[3] - state.so[3] : reached(copy);
    }

    int best(boolean hard) {
        if (state.left() == 0) {
            return -2;
        }
        int best = -1;
        int place = -1;
        for (int i = 6; i >= 0; i--) {
            State copy = state.copy();
            int worth = fly(copy, i, hard) * 8 + Integer.bitCount(reached(copy));
            if (worth >= best) {
                best = worth;
                place = i;
            }
        }
        return place;
    }

    int undo() {
        if (history.isEmpty()) {
            return -2;
        }
        state = history.remove(history.size() - 1);
        return history.size();
    }

    int save() {
        saved = state.copy();
        return state.so[0];
    }

    int restore() {
        if (saved == null) {
            return -2;
        }
        remember();
        state = saved.copy();
        return state.so[0];
    }
}
