import java.util.Arrays;

/**
 * A bagatelle board whose pins are bent by hard shots. ../shared/DOC.md says what each call does and
 * returns; README.md tells how the parts of this file go together.
 */
public final class BentPins {
    public static final int INVALID_ARGUMENT = -1;
    public static final int NOT_POSSIBLE = -2;
    public static final int LIMIT_REACHED = -3;
    public static final int NOT_FOUND = -4;
    public static final int TILT = 0, FULL = 1;

    private static final int ROWS = 5;
    private static final int PLACES = 7;
    private static final int PINS = 35;
    private static final int POCKETS = 7;
    private static final int ALL_BALLS = 20;
    private static final int ALL_PLACES = 127;

    private static final int LEFTWARD = -1;
    private static final int DOWNWARD = 0;
    private static final int RIGHTWARD = 1;

    private static final int LEVEL = 1;
    private static final int MOST_TILT = 2;
    private static final int LEAST_FULL = 1;
    private static final int MOST_FULL = 9;
    private static final int FULL_AT_FIRST = 3;
    private static final int MOST_BEND = 3;
    private static final int MOST_WORTH = 9;

    private static final int DONE = 10;
    private static final int NO_REASON = 0;
    private static final int NO_BALLS = 1;
    private static final int PULLED_OUT = 2;
    private static final int BENT_TOO_FAR = 3;

    private static final int PAD_LIMIT = 60;
    private static final int LEAST_CODE = 33;
    private static final int MOST_CODE = 126;
    private static final int HISTORY_LIMIT = 4;

    private final Table table = new Table();
    private final Table trial = new Table();
    private final Table snapshot = new Table();
    private boolean snapshotTaken = false;
    private final History history = new History();
    private final Roads roads = new Roads();
    private final Pad pad = new Pad();
    private int stopReason = NO_REASON;
    private int stopPart = 0;
    private int stopPosition = 0;

    public BentPins() {
    }

    // ---- deeds

    public int shoot(int place, boolean hard) {
        if (!isWithin(place, 0, PLACES - 1)) {
            return INVALID_ARGUMENT;
        }
        history.record(table);
        return table.shootBall(place, hard);
    }

    public int bend(int pin, boolean right) {
        if (!isWithin(pin, 0, PINS - 1)) {
            return INVALID_ARGUMENT;
        }
        history.record(table);
        return table.bendByHand(pin, right ? RIGHTWARD : LEFTWARD);
    }

    public int pull(int pin) {
        if (!isWithin(pin, 0, PINS - 1)) {
            return INVALID_ARGUMENT;
        }
        history.record(table);
        table.pins.pullOrSet(pin);
        return table.pins.pulledOut();
    }

    public int bell(int pin) {
        if (!isWithin(pin, 0, PINS - 1)) {
            return INVALID_ARGUMENT;
        }
        history.record(table);
        table.pins.hangOrTakeBell(pin);
        return table.pins.allBells();
    }

    public int worth(int pocket, int worth) {
        if (!isWithin(pocket, 0, POCKETS - 1) || !isWithin(worth, 0, MOST_WORTH)) {
            return INVALID_ARGUMENT;
        }
        history.record(table);
        int before = table.worths.at(pocket);
        table.worths.put(pocket, worth);
        return before;
    }

    public int set(int what, int value) {
        if (what == TILT && isWithin(value, 0, MOST_TILT)) {
            history.record(table);
            int before = table.pins.tilt;
            table.pins.tilt = value;
            return before;
        }
        if (what == FULL && isWithin(value, LEAST_FULL, MOST_FULL)) {
            history.record(table);
            int before = table.full;
            table.full = value;
            return before;
        }
        return INVALID_ARGUMENT;
    }

    public int empty() {
        history.record(table);
        table.emptyPockets();
        return table.left;
    }

    // ---- texts

    public int append(int code) {
        if (!isWithin(code, LEAST_CODE, MOST_CODE)) {
            return INVALID_ARGUMENT;
        }
        if (pad.length >= PAD_LIMIT) {
            return LIMIT_REACHED;
        }
        pad.write(code);
        return pad.length;
    }

    public int clear() {
        int before = pad.length;
        pad.wipe();
        return before;
    }

    public int fault(int way) {
        switch (way) {
            case 0:
                return pad.faultAsBoard();
            case 1:
                return pad.faultAsShots();
            default:
                return INVALID_ARGUMENT;
        }
    }

    public int board() {
        if (pad.faultAsBoard() != NOT_FOUND) {
            return NOT_POSSIBLE;
        }
        history.record(table);
        for (int pin = 0; pin < PINS; pin++) {
            table.pins.readSign(pin, pad.codeAt(pin));
        }
        pad.wipe();
        return table.pins.allPins();
    }

    public int shots() {
        if (pad.faultAsShots() != NOT_FOUND) {
            return NOT_POSSIBLE;
        }
        history.record(table);
        int before = table.points;
        shootAsThePadTells();
        pad.wipe();
        return table.points - before;
    }

    public int why(int what) {
        if (!isWithin(what, 0, 2)) {
            return INVALID_ARGUMENT;
        }
        if (stopReason == NO_REASON) {
            return NOT_FOUND;
        }
        switch (what) {
            case 0:
                return stopReason;
            case 1:
                return stopPart;
            default:
                return stopPosition;
        }
    }

    public int sign(int pin) {
        if (!isWithin(pin, 0, PINS - 1)) {
            return INVALID_ARGUMENT;
        }
        return table.pins.signOf(pin);
    }

    // ---- looks; nothing is changed

    public int pin(int pin, int what) {
        if (!isWithin(pin, 0, PINS - 1)) {
            return INVALID_ARGUMENT;
        }
        Pins pins = table.pins;
        switch (what) {
            case 0:
                return pins.isOut(pin) ? NOT_FOUND : pins.bends.at(pin) + MOST_BEND;
            case 1:
                return pins.bells.at(pin);
            case 2:
                return pins.isOut(pin) ? NOT_FOUND : pins.sides.at(pin);
            case 3:
                return pins.visits.at(pin);
            case 4:
                return roads.isOpenTo(pins, pin) ? 1 : 0;
            default:
                return INVALID_ARGUMENT;
        }
    }

    public int pocket(int pocket, int what) {
        if (!isWithin(pocket, 0, POCKETS - 1)) {
            return INVALID_ARGUMENT;
        }
        switch (what) {
            case 0:
                return table.worths.at(pocket);
            case 1:
                return table.held.at(pocket);
            case 2:
                return table.isFull(pocket) ? 1 : 0;
            case 3:
                return table.ended.at(pocket);
            case 4:
                return Integer.bitCount(roads.startsTo(table.pins, pocket));
            default:
                return INVALID_ARGUMENT;
        }
    }

    public int reach(int way) {
        switch (way) {
            case 0:
                return roads.pocketsForward(table.pins);
            case 1:
                return roads.pocketsBackward(table.pins);
            default:
                return INVALID_ARGUMENT;
        }
    }

    public int ways(int pocket, int way) {
        if (!isWithin(pocket, 0, POCKETS - 1)) {
            return INVALID_ARGUMENT;
        }
        switch (way) {
            case 0:
                return roads.waysRowByRow(table.pins, pocket);
            case 1:
                return waysFromAllPlaces(table.pins, pocket);
            default:
                return INVALID_ARGUMENT;
        }
    }

    public int count(int what) {
        switch (what) {
            case 0:
                return table.points;
            case 1:
                return table.left;
            case 2:
                return table.held.total();
            case 3:
                return table.lost;
            case 4:
                return table.pins.allPins();
            case 5:
                return table.pins.straightOnes();
            case 6:
                return table.pins.bendsTogether();
            case 7:
                return table.pins.allBells();
            case 8:
                return table.fullPockets();
            case 9:
                return Integer.bitCount(roads.pocketsForward(table.pins));
            default:
                return countSoFar(what);
        }
    }

    public double mean() {
        if (table.shots <= 0) {
            return 0.0;
        }
        return (double) table.points / (double) table.shots;
    }

    // ---- what would be; nothing is changed

    public int ends(int place) {
        if (!isWithin(place, 0, PLACES - 1)) {
            return INVALID_ARGUMENT;
        }
        return table.pins.endFrom(place);
    }

    public int ifShot(int place, boolean hard, int shots, int what) {
        if (!isWithin(place, 0, PLACES - 1) || !isWithin(shots, 1, ALL_BALLS) || !isWithin(what, 0, 2)) {
            return INVALID_ARGUMENT;
        }
        trial.copyFrom(table);
        for (int shot = 0; shot < shots && trial.left > 0; shot++) {
            trial.shootBall(place, hard);
        }
        switch (what) {
            case 0:
                return trial.points - table.points;
            case 1:
                return trial.lost - table.lost;
            default:
                return roads.pocketsForward(trial.pins);
        }
    }

    public int best(boolean hard) {
        if (table.left <= 0) {
            return NOT_POSSIBLE;
        }
        int bestPlace = 0;
        int bestGain = -1;
        int bestReach = -1;
        for (int place = 0; place < PLACES; place++) {
            trial.copyFrom(table);
            trial.shootBall(place, hard);
            int gain = trial.points - table.points;
            int reached = Integer.bitCount(roads.pocketsForward(trial.pins));
            if (gain > bestGain || gain == bestGain && reached > bestReach) {
                bestPlace = place;
                bestGain = gain;
                bestReach = reached;
            }
        }
        return bestPlace;
    }

    // ---- history, snapshot

    public int undo() {
        if (history.size <= 0) {
            return NOT_POSSIBLE;
        }
        history.takeBack(table);
        return history.size;
    }

    public int save() {
        snapshot.copyFrom(table);
        snapshotTaken = true;
        return table.points;
    }

    public int restore() {
        if (!snapshotTaken) {
            return NOT_POSSIBLE;
        }
        history.record(table);
        table.copyFrom(snapshot);
        return table.points;
    }

    // ---- what the calls above share

    private static boolean isWithin(int value, int least, int most) {
        return value >= least && value <= most;
    }

    private static int bit(int number) {
        return 1 << number;
    }

    private static boolean isIn(int set, int number) {
        return (set & bit(number)) != 0;
    }

    private static int pinAt(int row, int place) {
        return PLACES * row + place;
    }

    /** The place that a ball comes to from this one; by the rim it stays. */
    private static int placeBeside(int place, int direction) {
        return Math.max(0, Math.min(PLACES - 1, place + direction));
    }

    private int countSoFar(int what) {
        switch (what) {
            case 10:
                return table.shots;
            case 11:
                return table.hardShots;
            case 12:
                return table.pins.rings;
            case 13:
                return table.pins.bendsByBalls;
            case 14:
                return table.refusals;
            case 15:
                return table.pins.tilt;
            case 16:
                return table.full;
            case 17:
                return pad.length;
            case 18:
                return history.size;
            default:
                return INVALID_ARGUMENT;
        }
    }

    /** Does the parts of a pad without a fault, and notes where it stops. */
    private void shootAsThePadTells() {
        stopReason = NO_REASON;
        int part = 0;
        for (int position = 0; position < pad.length && stopReason == NO_REASON; position++) {
            int code = pad.codeAt(position);
            if (code == ',') {
                part++;
            } else if (code == 'e') {
                table.emptyPockets();
            } else if (Pad.isPlace(code)) {
                int answer = table.shootBall(code - '0', pad.codeAt(position + 1) == '!');
                if (answer < DONE) {
                    noteStop(answer, part, position);
                }
            }
        }
    }

    private void noteStop(int reason, int part, int position) {
        stopReason = reason;
        stopPart = part;
        stopPosition = position;
    }

    private static int waysFromAllPlaces(Pins pins, int pocket) {
        int found = 0;
        for (int place = 0; place < PLACES; place++) {
            found += waysFrom(pins, 0, place, pocket);
        }
        return found;
    }

    /**
     * Goes all ways from a place of a row. (The row is the depth. The two sides of a pin never lead to
     * the same place, so that each next place is a way of its own.)
     */
    private static int waysFrom(Pins pins, int row, int place, int pocket) {
        if (row >= ROWS) {
            return place == pocket ? 1 : 0;
        }
        int found = 0;
        int nextPlaces = pins.nextPlaces(pinAt(row, place));
        for (int next = 0; next < PLACES; next++) {
            if (isIn(nextPlaces, next)) {
                found += waysFrom(pins, row + 1, next, pocket);
            }
        }
        return found;
    }

    /** A row of numbers, which looks at each index before it uses it: outside of it stand zeros. */
    private static final class Row {
        private final int[] cells;

        Row(int length) {
            cells = new int[Math.max(0, length)];
        }

        int at(int index) {
            return index >= 0 && index < cells.length ? cells[index] : 0;
        }

        void put(int index, int value) {
            if (index >= 0 && index < cells.length) {
                cells[index] = value;
            }
        }

        void raise(int index, int more) {
            if (index >= 0 && index < cells.length) {
                cells[index] += more;
            }
        }

        void fillWith(int value) {
            Arrays.fill(cells, value);
        }

        void copyFrom(Row other) {
            System.arraycopy(other.cells, 0, cells, 0, Math.min(other.cells.length, cells.length));
        }

        int total() {
            int sum = 0;
            for (int cell : cells) {
                sum += cell;
            }
            return sum;
        }
    }

    /** The pins, the tilt of their board, and what balls did to them. */
    private static final class Pins {
        final Row bends = new Row(PINS);
        final Row outs = new Row(PINS);
        final Row bells = new Row(PINS);
        final Row sides = new Row(PINS);
        final Row visits = new Row(PINS);
        int tilt = LEVEL;
        int rings = 0;
        int bendsByBalls = 0;

        void copyFrom(Pins other) {
            bends.copyFrom(other.bends);
            outs.copyFrom(other.outs);
            bells.copyFrom(other.bells);
            sides.copyFrom(other.sides);
            visits.copyFrom(other.visits);
            tilt = other.tilt;
            rings = other.rings;
            bendsByBalls = other.bendsByBalls;
        }

        boolean isOut(int pin) {
            return outs.at(pin) != 0;
        }

        int pulledOut() {
            return outs.total();
        }

        int allPins() {
            return PINS - pulledOut();
        }

        int allBells() {
            return bells.total();
        }

        int straightOnes() {
            int found = 0;
            for (int pin = 0; pin < PINS; pin++) {
                if (!isOut(pin) && bends.at(pin) == 0) {
                    found++;
                }
            }
            return found;
        }

        int bendsTogether() {
            int sum = 0;
            for (int pin = 0; pin < PINS; pin++) {
                sum += Math.abs(bends.at(pin));
            }
            return sum;
        }

        /** A pin that is out is straight already, so that nothing is left to do when it is set again. */
        void pullOrSet(int pin) {
            outs.put(pin, 1 - outs.at(pin));
            bends.put(pin, 0);
            sides.put(pin, 0);
        }

        void hangOrTakeBell(int pin) {
            bells.put(pin, 1 - bells.at(pin));
        }

        boolean canBend(int pin, int direction) {
            return isWithin(bends.at(pin) + direction, -MOST_BEND, MOST_BEND);
        }

        void bendBy(int pin, int direction) {
            bends.raise(pin, direction);
        }

        /** The direction in which a pin sends all balls; DOWNWARD if its side decides. */
        private int leanOf(int pin) {
            int bend = bends.at(pin);
            return bend < 0 ? LEFTWARD : bend > 0 ? RIGHTWARD : tilt - LEVEL;
        }

        /** The places of the next row that balls could come to from a pin. */
        int nextPlaces(int pin) {
            int place = pin % PLACES;
            if (isOut(pin)) {
                return bit(place);
            }
            int lean = leanOf(pin);
            if (lean != DOWNWARD) {
                return bit(placeBeside(place, lean));
            }
            return bit(placeBeside(place, LEFTWARD)) | bit(placeBeside(place, RIGHTWARD));
        }

        private int nextDirection(int pin) {
            if (isOut(pin)) {
                return DOWNWARD;
            }
            int lean = leanOf(pin);
            if (lean != DOWNWARD) {
                return lean;
            }
            return sides.at(pin) == 0 ? LEFTWARD : RIGHTWARD;
        }

        int endFrom(int start) {
            int place = start;
            for (int row = 0; row < ROWS; row++) {
                place = placeBeside(place, nextDirection(pinAt(row, place)));
            }
            return place;
        }

        /** Rolls a ball from a place of the row 0, and returns its pocket. */
        int rollBall(int start, boolean hard) {
            int place = start;
            for (int row = 0; row < ROWS; row++) {
                int pin = pinAt(row, place);
                int direction = nextDirection(pin);
                meetBall(pin, direction, hard);
                place = placeBeside(place, direction);
            }
            return place;
        }

        private void meetBall(int pin, int direction, boolean hard) {
            visits.raise(pin, 1);
            if (isOut(pin)) {
                return;
            }
            rings += bells.at(pin);
            if (leanOf(pin) == DOWNWARD) {
                sides.put(pin, 1 - sides.at(pin));
            }
            if (hard && canBend(pin, direction)) {
                bendBy(pin, direction);
                bendsByBalls++;
            }
        }

        void readSign(int pin, int code) {
            bends.put(pin, code == '<' ? -1 : code == '>' ? 1 : 0);
            outs.put(pin, code == '.' ? 1 : 0);
            bells.put(pin, code == 'o' ? 1 : 0);
            sides.put(pin, 0);
        }

        int signOf(int pin) {
            if (isOut(pin)) {
                return '.';
            }
            if (bells.at(pin) != 0) {
                return 'o';
            }
            int bend = bends.at(pin);
            return bend < 0 ? '<' : bend > 0 ? '>' : '|';
        }
    }

    /** Everything that undo and the snapshot bring back: the pins, the pockets and the accounts. */
    private static final class Table {
        final Pins pins = new Pins();
        final Row worths = new Row(POCKETS);
        final Row held = new Row(POCKETS);
        final Row ended = new Row(POCKETS);
        int full = FULL_AT_FIRST;
        int left = ALL_BALLS;
        int lost = 0;
        int points = 0;
        int shots = 0;
        int hardShots = 0;
        int refusals = 0;

        Table() {
            for (int pocket = 0; pocket < POCKETS; pocket++) {
                worths.put(pocket, Math.max(pocket, POCKETS - 1 - pocket) - 2);
            }
        }

        void copyFrom(Table other) {
            pins.copyFrom(other.pins);
            worths.copyFrom(other.worths);
            held.copyFrom(other.held);
            ended.copyFrom(other.ended);
            full = other.full;
            left = other.left;
            lost = other.lost;
            points = other.points;
            shots = other.shots;
            hardShots = other.hardShots;
            refusals = other.refusals;
        }

        boolean isFull(int pocket) {
            return held.at(pocket) >= full;
        }

        int fullPockets() {
            int found = 0;
            for (int pocket = 0; pocket < POCKETS; pocket++) {
                if (isFull(pocket)) {
                    found++;
                }
            }
            return found;
        }

        /** Returns DONE and the points, or the reason for which the shot is refused. */
        int shootBall(int place, boolean hard) {
            if (left <= 0) {
                refusals++;
                return NO_BALLS;
            }
            left--;
            shots++;
            if (hard) {
                hardShots++;
            }
            int ringsBefore = pins.rings;
            int pocket = pins.rollBall(place, hard);
            int gain = pins.rings - ringsBefore + takeBall(pocket);
            points += gain;
            return DONE + gain;
        }

        /** Returns the points for the pocket itself: none if the ball is lost. */
        private int takeBall(int pocket) {
            ended.raise(pocket, 1);
            if (isFull(pocket)) {
                lost++;
                return 0;
            }
            held.raise(pocket, 1);
            return worths.at(pocket);
        }

        /** Returns DONE, the bend and 3, or the reason for which the bend is refused. */
        int bendByHand(int pin, int direction) {
            if (pins.isOut(pin)) {
                refusals++;
                return PULLED_OUT;
            }
            if (!pins.canBend(pin, direction)) {
                refusals++;
                return BENT_TOO_FAR;
            }
            pins.bendBy(pin, direction);
            return DONE + pins.bends.at(pin) + MOST_BEND;
        }

        void emptyPockets() {
            left += held.total() + lost;
            held.fillWith(0);
            lost = 0;
        }
    }

    /** The latest states, the oldest one first; its tables are made once and used again. */
    private static final class History {
        private final Table[] states = new Table[HISTORY_LIMIT];
        int size = 0;

        History() {
            for (int place = 0; place < states.length; place++) {
                states[place] = new Table();
            }
        }

        void record(Table now) {
            if (size >= states.length) {
                dropOldest();
            }
            Table free = stateAt(size);
            if (free != null) {
                free.copyFrom(now);
                size++;
            }
        }

        void takeBack(Table now) {
            Table latest = stateAt(size - 1);
            if (latest != null) {
                now.copyFrom(latest);
                size--;
            }
        }

        private Table stateAt(int place) {
            return place >= 0 && place < states.length ? states[place] : null;
        }

        /** The table of the oldest state goes behind the others, to be written anew. */
        private void dropOldest() {
            for (int place = 1; place < states.length; place++) {
                Table oldest = states[place - 1];
                states[place - 1] = states[place];
                states[place] = oldest;
            }
            size--;
        }
    }

    /** The text that is written sign by sign, and its two readings. */
    private static final class Pad {
        private final Row codes = new Row(PAD_LIMIT);
        int length = 0;

        void write(int code) {
            codes.put(length, code);
            length++;
        }

        void wipe() {
            length = 0;
        }

        int codeAt(int position) {
            return position < length ? codes.at(position) : 0;
        }

        int faultAsBoard() {
            for (int position = 0; position < length; position++) {
                if (position >= PINS || !isPinSign(codeAt(position))) {
                    return position;
                }
            }
            return length < PINS ? length : NOT_FOUND;
        }

        int faultAsShots() {
            int before = ',';
            for (int position = 0; position < length; position++) {
                int code = codeAt(position);
                if (!mayFollow(before, code)) {
                    return position;
                }
                before = code;
            }
            return before == ',' ? length : NOT_FOUND;
        }

        private static boolean isPinSign(int code) {
            return code == '<' || code == '|' || code == '>' || code == '.' || code == 'o';
        }

        static boolean isPlace(int code) {
            return isWithin(code, '0', '6');
        }

        /** The first sign of a text stands as one behind a comma does. */
        private static boolean mayFollow(int before, int code) {
            if (before == ',') {
                return isPlace(code) || code == 'e';
            }
            return code == ',' || code == '!' && isPlace(before);
        }
    }

    /** Where balls could come; sets of places and pockets are bits. */
    private static final class Roads {
        private final Row waysHere = new Row(PLACES);
        private final Row waysBelow = new Row(PLACES);

        int pocketsForward(Pins pins) {
            return placesInRow(pins, ROWS);
        }

        int pocketsBackward(Pins pins) {
            int found = 0;
            for (int pocket = 0; pocket < POCKETS; pocket++) {
                if (startsTo(pins, pocket) != 0) {
                    found |= bit(pocket);
                }
            }
            return found;
        }

        boolean isOpenTo(Pins pins, int pin) {
            return isIn(placesInRow(pins, pin / PLACES), pin % PLACES);
        }

        /** The places of a row that balls could come to; behind the last row these are pockets. */
        private int placesInRow(Pins pins, int wanted) {
            int places = ALL_PLACES;
            for (int row = 0; row < ROWS && row < wanted; row++) {
                places = placesBelow(pins, row, places);
            }
            return places;
        }

        private int placesBelow(Pins pins, int row, int places) {
            int below = 0;
            for (int place = 0; place < PLACES; place++) {
                if (isIn(places, place)) {
                    below |= pins.nextPlaces(pinAt(row, place));
                }
            }
            return below;
        }

        /** The places of the row 0 from which a ball could end in the pocket. */
        int startsTo(Pins pins, int pocket) {
            int places = bit(pocket);
            for (int row = ROWS - 1; row >= 0; row--) {
                places = placesAbove(pins, row, places);
            }
            return places;
        }

        private int placesAbove(Pins pins, int row, int below) {
            int places = 0;
            for (int place = 0; place < PLACES; place++) {
                if ((pins.nextPlaces(pinAt(row, place)) & below) != 0) {
                    places |= bit(place);
                }
            }
            return places;
        }

        int waysRowByRow(Pins pins, int pocket) {
            waysHere.fillWith(1);
            for (int row = 0; row < ROWS; row++) {
                waysBelow.fillWith(0);
                for (int place = 0; place < PLACES; place++) {
                    passWaysOn(pins.nextPlaces(pinAt(row, place)), waysHere.at(place));
                }
                waysHere.copyFrom(waysBelow);
            }
            return waysHere.at(pocket);
        }

        private void passWaysOn(int nextPlaces, int ways) {
            for (int next = 0; next < PLACES; next++) {
                if (isIn(nextPlaces, next)) {
                    waysBelow.raise(next, ways);
                }
            }
        }
    }
}
