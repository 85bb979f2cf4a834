/**
 * A thrown disc and the photos that were taken of it. What each call promises
 * is said in ../shared/DOC.md.
 *
 * <p>Every array and helper is made once, with the object: a call makes none.
 */
public final class DiscArcs {
    public static final int UNKNOWN = -1;
    public static final int BAD_VALUE = -2;
    public static final int FULL = -3;
    public static final int NOT_POSSIBLE = -4;
    public static final int NONE = -5;

    private static final int MOST_PHOTOS = 10;
    private static final int MOST_STATES = 4;
    private static final int MOST_CHARACTERS = 60;
    private static final int MOST_DIGITS = 3;

    private static final int LAST_TIME = 99;
    private static final int FARTHEST = 400;
    private static final int MOST_ERROR = 40;
    private static final int MOST_ANGLE_ERROR = 60;
    private static final int FULL_TURN = 360;
    private static final int MOST_SPIN = 180;
    /** Stands as the angle of a photo that has none. */
    private static final int NO_ANGLE = 360;

    // The rows of the photos bear the numbers that photo(photo, what) asks for.
    private static final int TIME = 0;
    private static final int X = 1;
    private static final int Y = 2;
    private static final int ERROR = 3;
    private static final int ANGLE = 4;
    private static final int ANGLE_ERROR = 5;
    private static final int ASIDE = 6;
    private static final int TOLD_ROWS = 6;
    private static final int ALL_ROWS = 7;
    private static final int ASK_WHETHER_SPIN_FITS = 7;

    private static final int PLACE_SHIFT = 1000;
    private static final int SPIN_SHIFT = 200;
    private static final int FAULT_SHIFT = -100;
    private static final long UPPER_SHIFT = 10000000000L;
    private static final int LAST_BIT = 31;
    /** Far more than Euclid's steps for any two numbers of 64 bits. */
    private static final int MOST_DIVISIONS = 1000;

    private final Photos photos;
    private final Photos snapshot;
    private boolean hasSnapshot;
    private final History history;
    private final Text text;
    /** The photo that is to be added, by rows. */
    private final int[] told;
    private final Arc curve;
    private final Track parting;
    private final Spin turning;

    public DiscArcs() {
        photos = new Photos();
        snapshot = new Photos();
        history = new History();
        text = new Text();
        told = new int[TOLD_ROWS];
        curve = new Arc(photos);
        parting = new Track(photos, curve);
        turning = new Spin(photos);
    }

    // ---- photos

    public int addPhoto(int time, int x, int y, int error) {
        told[TIME] = time;
        told[X] = x;
        told[Y] = y;
        told[ERROR] = error;
        told[ANGLE] = NO_ANGLE;
        told[ANGLE_ERROR] = 0;
        return toldIsInRange() ? addTold() : BAD_VALUE;
    }

    public int readPhoto() {
        if (!text.readInto(told)) {
            return FAULT_SHIFT - text.position;
        }
        // Only setAngle() takes 360 for none; in a text it is no angle.
        if (!toldIsInRange() || (text.tellsAngle && told[ANGLE] == NO_ANGLE)) {
            return BAD_VALUE;
        }
        return addTold();
    }

    public int setAngle(int photo, int angle, int error) {
        if (!photos.holds(photo)) {
            return UNKNOWN;
        }
        if (!isWithin(angle, 0, NO_ANGLE) || !isWithin(error, 0, MOST_ANGLE_ERROR)
                || (angle == NO_ANGLE && error != 0)) {
            return BAD_VALUE;
        }
        int before = photos.rows[ANGLE][photo];
        if (before == angle && photos.rows[ANGLE_ERROR][photo] == error) {
            return NONE;
        }
        history.record(photos);
        photos.rows[ANGLE][photo] = angle;
        photos.rows[ANGLE_ERROR][photo] = error;
        return before;
    }

    public int move(int photo, int x, int y) {
        if (!photos.holds(photo)) {
            return UNKNOWN;
        }
        if (!isWithin(x, -FARTHEST, FARTHEST) || !isWithin(y, -FARTHEST, FARTHEST)) {
            return BAD_VALUE;
        }
        if (photos.rows[X][photo] == x && photos.rows[Y][photo] == y) {
            return NONE;
        }
        history.record(photos);
        photos.rows[X][photo] = x;
        photos.rows[Y][photo] = y;
        return Integer.bitCount(missedByBest());
    }

    public int setAside(int photo, boolean is) {
        if (!photos.holds(photo)) {
            return UNKNOWN;
        }
        if (photos.isUsable(photo) != is) {
            return NONE;
        }
        history.record(photos);
        photos.rows[ASIDE][photo] = is ? 1 : 0;
        return Integer.bitCount(photos.usable());
    }

    public int dropMissed() {
        int usable = photos.usable();
        if (!curve.layBest(usable)) {
            return NOT_POSSIBLE;
        }
        int missed = curve.missedOf(usable);
        if (missed == 0) {
            return NONE;
        }
        history.record(photos);
        for (int photo = 0; photo < photos.size; photo++) {
            if (isIn(missed, photo)) {
                photos.rows[ASIDE][photo] = 1;
            }
        }
        return Integer.bitCount(missed);
    }

    public int remove(int photo) {
        if (!photos.holds(photo)) {
            return UNKNOWN;
        }
        history.record(photos);
        photos.delete(photo);
        return photos.size;
    }

    // ---- texts

    public int type(char character) {
        return text.append(character) ? text.length : FULL;
    }

    public int clearText() {
        int before = text.length;
        text.length = 0;
        return before;
    }

    // ---- history

    public int undo() {
        return history.takeBack(photos) ? history.size : NONE;
    }

    public int keep() {
        snapshot.copyFrom(photos);
        hasSnapshot = true;
        return photos.size;
    }

    public int restore() {
        if (!hasSnapshot) {
            return NONE;
        }
        history.record(photos);
        photos.copyFrom(snapshot);
        return photos.size;
    }

    // ---- photos, told

    public int photo(int photo, int what) {
        if (!photos.holds(photo)) {
            return UNKNOWN;
        }
        if (!isWithin(what, 0, ASK_WHETHER_SPIN_FITS)) {
            return BAD_VALUE;
        }
        switch (what) {
            case X:
            case Y:
                return photos.rows[what][photo] + PLACE_SHIFT;
            case ANGLE:
            case ANGLE_ERROR:
                return photos.hasAngle(photo) ? photos.rows[what][photo] : NONE;
            case ASK_WHETHER_SPIN_FITS:
                if (!photos.isMarked(photo) || !turning.search()) {
                    return NONE;
                }
                return isIn(turning.fitted, photo) ? 1 : 0;
            default:
                return photos.rows[what][photo];
        }
    }

    // ---- arcs

    public long arc(int one, int two, int three, int time, int what, int part) {
        if (!areHeld(one, two, three)) {
            return UNKNOWN;
        }
        if (areAnySame(one, two, three) || !isAskForFraction(time, what, part)) {
            return BAD_VALUE;
        }
        if (!areUsable(one, two, three)) {
            return NOT_POSSIBLE;
        }
        layInOrder(one, two, three);
        return partOf(curve.upper(what, time), curve.lower(), part);
    }

    public int hits(int one, int two, int three) {
        if (!areHeld(one, two, three)) {
            return UNKNOWN;
        }
        if (areAnySame(one, two, three)) {
            return BAD_VALUE;
        }
        if (!areUsable(one, two, three)) {
            return NOT_POSSIBLE;
        }
        layInOrder(one, two, three);
        int usable = photos.usable();
        return usable & ~curve.missedOf(usable);
    }

    public int best(int what) {
        if (!isWithin(what, 0, 4)) {
            return BAD_VALUE;
        }
        int usable = photos.usable();
        if (!curve.layBest(usable)) {
            return NOT_POSSIBLE;
        }
        switch (what) {
            case 3:
                return Integer.bitCount(curve.missedOf(usable));
            case 4:
                return curve.missedOf(usable);
            default:
                return curve.photoOf(what);
        }
    }

    public long bestAt(int time, int what, int part) {
        if (!isAskForFraction(time, what, part)) {
            return BAD_VALUE;
        }
        if (!curve.layBest(photos.usable())) {
            return NOT_POSSIBLE;
        }
        return partOf(curve.upper(what, time), curve.lower(), part);
    }

    public int lands() {
        if (!curve.layBest(photos.usable())) {
            return NOT_POSSIBLE;
        }
        for (int time = photos.rows[TIME][curve.first]; time <= LAST_TIME; time++) {
            // The lower number is above 0, so the upper one tells the sign.
            if (curve.upper(1, time) <= 0) {
                return time;
            }
        }
        return NONE;
    }

    // ---- tracks

    public int track(int row, int what) {
        if (row < 0 || !isWithin(what, 0, 5)) {
            return BAD_VALUE;
        }
        if (row >= parting.plan()) {
            return NONE;
        }
        int set = parting.rowAt(row);
        switch (what) {
            case 0:
                return Integer.numberOfTrailingZeros(set);
            case 1:
                return LAST_BIT - Integer.numberOfLeadingZeros(set);
            case 2:
                return set;
            default:
                return curve.layBest(set) ? curve.photoOf(what - 3) : NONE;
        }
    }

    public int fitsFrom(int photo) {
        if (!photos.holds(photo)) {
            return UNKNOWN;
        }
        if (!photos.isUsable(photo)) {
            return NOT_POSSIBLE;
        }
        // From the longest down: a long row may fit where a shorter one does not.
        for (int end = photos.size; end > photo + 1; end--) {
            int set = parting.between(photo, end);
            if (parting.isFitting(set)) {
                return Integer.bitCount(set);
            }
        }
        return 1;
    }

    // ---- spins

    public int spin(int what) {
        if (!isWithin(what, 0, 3)) {
            return BAD_VALUE;
        }
        if (!turning.search()) {
            return NOT_POSSIBLE;
        }
        switch (what) {
            case 0:
                return turning.turn + SPIN_SHIFT;
            case 1:
                return turning.beginning;
            case 2:
                return Integer.bitCount(turning.fitted);
            default:
                return turning.fitted;
        }
    }

    public int fits(int spin, int beginning) {
        if (!isWithin(spin, 1 - MOST_SPIN, MOST_SPIN) || !isWithin(beginning, 0, FULL_TURN - 1)) {
            return BAD_VALUE;
        }
        return Integer.bitCount(turning.fittedBy(spin, beginning));
    }

    public int angleAt(int time) {
        if (!isWithin(time, 0, LAST_TIME)) {
            return BAD_VALUE;
        }
        if (!turning.search()) {
            return NOT_POSSIBLE;
        }
        return Spin.angleOf(turning.turn, turning.beginning, time);
    }

    public int count(int what) {
        switch (what) {
            case 0:
                return photos.size;
            case 1:
                return photos.usable();
            case 2:
                return photos.marked();
            case 3:
                return parting.plan();
            case 4:
                return history.size;
            case 5:
                return text.length;
            default:
                return BAD_VALUE;
        }
    }

    // ---- what several calls need

    private static boolean isWithin(int value, int least, int most) {
        return value >= least && value <= most;
    }

    private static boolean isIn(int set, int photo) {
        return (set & 1 << photo) != 0;
    }

    private boolean toldIsInRange() {
        return isWithin(told[TIME], 0, LAST_TIME)
                && isWithin(told[X], -FARTHEST, FARTHEST)
                && isWithin(told[Y], -FARTHEST, FARTHEST)
                && isWithin(told[ERROR], 0, MOST_ERROR)
                && isWithin(told[ANGLE], 0, NO_ANGLE)
                && isWithin(told[ANGLE_ERROR], 0, MOST_ANGLE_ERROR);
    }

    private int addTold() {
        int number = photos.numberAt(told[TIME]);
        if (number < photos.size && photos.rows[TIME][number] == told[TIME]) {
            return NOT_POSSIBLE;
        }
        if (photos.size >= MOST_PHOTOS) {
            return FULL;
        }
        history.record(photos);
        photos.insert(number, told);
        return number;
    }

    private int missedByBest() {
        int usable = photos.usable();
        return curve.layBest(usable) ? curve.missedOf(usable) : 0;
    }

    private boolean areHeld(int one, int two, int three) {
        return photos.holds(one) && photos.holds(two) && photos.holds(three);
    }

    private boolean areUsable(int one, int two, int three) {
        return photos.isUsable(one) && photos.isUsable(two) && photos.isUsable(three);
    }

    private static boolean areAnySame(int one, int two, int three) {
        return one == two || one == three || two == three;
    }

    private static boolean isAskForFraction(int time, int what, int part) {
        return isWithin(time, 0, LAST_TIME) && isWithin(what, 0, 1) && isWithin(part, 0, 1);
    }

    /** Lays the arc through three photos, which may be named in any order. */
    private void layInOrder(int one, int two, int three) {
        int first = Math.min(one, Math.min(two, three));
        int third = Math.max(one, Math.max(two, three));
        curve.lay(first, one + two + three - first - third, third);
    }

    /** Tells a part of a fraction, whose lower number is above 0, in lowest terms. */
    private static long partOf(long upper, long lower, int part) {
        long divisor = Math.max(1, commonDivisor(Math.abs(upper), lower));
        return part == 0 ? upper / divisor + UPPER_SHIFT : lower / divisor;
    }

    private static long commonDivisor(long one, long other) {
        long greater = one;
        long lesser = other;
        for (int step = 0; lesser != 0 && step < MOST_DIVISIONS; step++) {
            long rest = greater % lesser;
            greater = lesser;
            lesser = rest;
        }
        return greater;
    }

    /** The photos of a state, in the order of their times. */
    private static final class Photos {
        final int[][] rows = new int[ALL_ROWS][MOST_PHOTOS];
        int size;

        void copyFrom(Photos other) {
            for (int row = 0; row < ALL_ROWS; row++) {
                System.arraycopy(other.rows[row], 0, rows[row], 0, MOST_PHOTOS);
            }
            size = other.size;
        }

        boolean holds(int photo) {
            return photo >= 0 && photo < size;
        }

        boolean isUsable(int photo) {
            return rows[ASIDE][photo] == 0;
        }

        boolean hasAngle(int photo) {
            return rows[ANGLE][photo] != NO_ANGLE;
        }

        /** Whether a photo is usable and has an angle. */
        boolean isMarked(int photo) {
            return isUsable(photo) && hasAngle(photo);
        }

        int usable() {
            int set = 0;
            for (int photo = 0; photo < size; photo++) {
                if (isUsable(photo)) {
                    set |= 1 << photo;
                }
            }
            return set;
        }

        int marked() {
            int set = 0;
            for (int photo = 0; photo < size; photo++) {
                if (isMarked(photo)) {
                    set |= 1 << photo;
                }
            }
            return set;
        }

        /** The number that a photo of this time has, or would have if it were added. */
        int numberAt(int time) {
            int number = 0;
            while (number < size && rows[TIME][number] < time) {
                number++;
            }
            return number;
        }

        void insert(int number, int[] told) {
            if (number < 0 || number > size || size >= MOST_PHOTOS) {
                return;
            }
            for (int row = 0; row < ALL_ROWS; row++) {
                System.arraycopy(rows[row], number, rows[row], number + 1, size - number);
                rows[row][number] = row < told.length ? told[row] : 0;
            }
            size++;
        }

        void delete(int number) {
            if (!holds(number)) {
                return;
            }
            for (int row = 0; row < ALL_ROWS; row++) {
                System.arraycopy(rows[row], number + 1, rows[row], number, size - 1 - number);
            }
            size--;
        }
    }

    /** The states before the latest acts, the oldest one first. */
    private static final class History {
        private final Photos[] states = new Photos[MOST_STATES];
        int size;

        History() {
            for (int i = 0; i < MOST_STATES; i++) {
                states[i] = new Photos();
            }
        }

        void record(Photos now) {
            if (size >= MOST_STATES) {
                dropOldest();
            }
            states[size].copyFrom(now);
            size++;
        }

        boolean takeBack(Photos now) {
            if (size <= 0) {
                return false;
            }
            size--;
            now.copyFrom(states[size]);
            return true;
        }

        private void dropOldest() {
            // The oldest one's room goes to the end, so that no new one is made.
            Photos room = states[0];
            for (int i = 1; i < MOST_STATES; i++) {
                states[i - 1] = states[i];
            }
            states[MOST_STATES - 1] = room;
            size = MOST_STATES - 1;
        }
    }

    /** The text, and the reading of it. */
    private static final class Text {
        private final char[] characters = new char[MOST_CHARACTERS];
        int length;
        /** Where the reading is; behind a reading that failed it is the fault. */
        int position;
        boolean tellsAngle;

        boolean append(char character) {
            if (length >= MOST_CHARACTERS) {
                return false;
            }
            characters[length] = character;
            length++;
            return true;
        }

        /** Reads a photo into its rows, and tells whether the text has no fault. */
        boolean readInto(int[] told) {
            position = 0;
            tellsAngle = false;
            told[ANGLE] = NO_ANGLE;
            told[ANGLE_ERROR] = 0;
            if (!readPlace(told)) {
                return false;
            }
            if (position == length) {
                return true;
            }
            tellsAngle = pass('@');
            return tellsAngle && readNumber(told, ANGLE, false)
                    && pass(',') && readNumber(told, ANGLE_ERROR, false)
                    && position == length;
        }

        private boolean readPlace(int[] told) {
            return readNumber(told, TIME, false)
                    && pass(':') && readNumber(told, X, true)
                    && pass(',') && readNumber(told, Y, true)
                    && pass(',') && readNumber(told, ERROR, false);
        }

        private boolean readNumber(int[] told, int row, boolean mayBeMinus) {
            boolean isMinus = mayBeMinus && pass('-');
            if (!isDigit() || (isMinus && characters[position] == '0')) {
                return false;
            }
            int value = readDigit();
            // Behind a 0 in front there is no digit: it is a number by itself.
            for (int digits = 1; digits < MOST_DIGITS && value != 0 && isDigit(); digits++) {
                value = 10 * value + readDigit();
            }
            told[row] = isMinus ? -value : value;
            return true;
        }

        private boolean isDigit() {
            return position < length && characters[position] >= '0' && characters[position] <= '9';
        }

        private int readDigit() {
            int digit = characters[position] - '0';
            position++;
            return digit;
        }

        private boolean pass(char character) {
            if (position >= length || characters[position] != character) {
                return false;
            }
            position++;
            return true;
        }
    }

    /** An arc through three of the photos; it is laid before it is asked. */
    private static final class Arc {
        private final Photos photos;
        int first;
        private int second;
        private int third;

        Arc(Photos photos) {
            this.photos = photos;
        }

        /** Lays it through three photos, in their order, so that the lower number is above 0. */
        void lay(int one, int two, int three) {
            first = one;
            second = two;
            third = three;
        }

        /**
         * Lays it through three photos of a set so that it misses the fewest of
         * the set, and tells whether the set has three; the first such arc wins.
         */
        boolean layBest(int set) {
            int fewest = MOST_PHOTOS;
            int best = 0;
            for (int one = 0; one < photos.size; one++) {
                for (int two = one + 1; two < photos.size; two++) {
                    for (int three = two + 1; three < photos.size; three++) {
                        int trio = 1 << one | 1 << two | 1 << three;
                        if ((set & trio) == trio) {
                            lay(one, two, three);
                            int misses = Integer.bitCount(missedOf(set));
                            if (misses < fewest) {
                                fewest = misses;
                                best = trio;
                            }
                        }
                    }
                }
            }
            layThrough(best);
            return best != 0;
        }

        /** The photo that it is laid through: the first one for 0, and so on. */
        int photoOf(int which) {
            if (which == 0) {
                return first;
            }
            return which == 1 ? second : third;
        }

        long upper(int what, long time) {
            int[] v = photos.rows[X + what];
            long r = photos.rows[TIME][first];
            long s = photos.rows[TIME][second];
            long t = photos.rows[TIME][third];
            return v[first] * (time - s) * (time - t) * (t - s)
                    + v[second] * (time - r) * (time - t) * (r - t)
                    + v[third] * (time - r) * (time - s) * (s - r);
        }

        long lower() {
            long r = photos.rows[TIME][first];
            long s = photos.rows[TIME][second];
            long t = photos.rows[TIME][third];
            return (s - r) * (t - r) * (t - s);
        }

        /** The photos of a set that it does not hit. */
        int missedOf(int set) {
            // All is taken times the lower number, so that nothing is rounded.
            long lower = lower();
            int missed = 0;
            for (int photo = 0; photo < photos.size; photo++) {
                if (isIn(set, photo)) {
                    long time = photos.rows[TIME][photo];
                    long error = photos.rows[ERROR][photo] * lower;
                    long awayInX = upper(0, time) - photos.rows[X][photo] * lower;
                    long awayInY = upper(1, time) - photos.rows[Y][photo] * lower;
                    if (Math.abs(awayInX) > error || Math.abs(awayInY) > error) {
                        missed |= 1 << photo;
                    }
                }
            }
            return missed;
        }

        private void layThrough(int trio) {
            int found = 0;
            for (int photo = 0; photo < photos.size; photo++) {
                if (isIn(trio, photo)) {
                    first = found == 0 ? photo : first;
                    second = found == 1 ? photo : second;
                    third = found == 2 ? photo : third;
                    found++;
                }
            }
        }
    }

    /** The parting of the usable photos into rows that fit. */
    private static final class Track {
        private final Photos photos;
        private final Arc curve;
        /** For each photo: how few rows the usable ones from it on can be parted into. */
        private final int[] rowsFrom = new int[MOST_PHOTOS + 1];
        /** For each photo: the one behind the row that begins there. */
        private final int[] endFrom = new int[MOST_PHOTOS + 1];

        Track(Photos photos, Arc curve) {
            this.photos = photos;
            this.curve = curve;
        }

        /** The usable photos from one on, ahead of an end. */
        int between(int from, int end) {
            return photos.usable() & ((1 << end) - (1 << from));
        }

        boolean isFitting(int set) {
            return !curve.layBest(set) || curve.missedOf(set) == 0;
        }

        /** Plans the track, and tells how many rows it has. */
        int plan() {
            rowsFrom[photos.size] = 0;
            endFrom[photos.size] = photos.size;
            for (int from = photos.size - 1; from >= 0; from--) {
                if (photos.isUsable(from)) {
                    planFrom(from);
                } else {
                    rowsFrom[from] = rowsFrom[from + 1];
                    endFrom[from] = endFrom[from + 1];
                }
            }
            return rowsFrom[0];
        }

        private void planFrom(int from) {
            rowsFrom[from] = MOST_PHOTOS + 1;
            for (int end = from + 1; end <= photos.size; end++) {
                // Equal counts go to the later end: of several tracks the longest row wins.
                if (1 + rowsFrom[end] <= rowsFrom[from] && isFitting(between(from, end))) {
                    rowsFrom[from] = 1 + rowsFrom[end];
                    endFrom[from] = end;
                }
            }
        }

        /** The photos of a row of the track that was planned last. */
        int rowAt(int row) {
            int from = 0;
            for (int passed = 0; passed < row && from < photos.size; passed++) {
                from = endFrom[from];
            }
            return between(from, endFrom[from]);
        }
    }

    /** The spin that fits the most photos; it is searched for before it is asked. */
    private static final class Spin {
        private final Photos photos;
        int turn;
        int beginning;
        int fitted;

        Spin(Photos photos) {
            this.photos = photos;
        }

        static int angleOf(int tried, int start, int time) {
            return Math.floorMod(start + tried * time, FULL_TURN);
        }

        /** The usable photos with angles that a spin fits. */
        int fittedBy(int tried, int start) {
            int set = 0;
            for (int photo = 0; photo < photos.size; photo++) {
                if (photos.isMarked(photo) && isNear(photo, tried, start)) {
                    set |= 1 << photo;
                }
            }
            return set;
        }

        private boolean isNear(int photo, int tried, int start) {
            int angle = angleOf(tried, start, photos.rows[TIME][photo]);
            int apart = Math.abs(angle - photos.rows[ANGLE][photo]);
            return Math.min(apart, FULL_TURN - apart) <= photos.rows[ANGLE_ERROR][photo];
        }

        /** Searches for the spin, and tells whether there is one. */
        boolean search() {
            turn = 0;
            beginning = 0;
            fitted = 0;
            int all = photos.marked();
            if (all == 0) {
                return false;
            }
            tryTurn(0);
            // The turns come in the order in which they win, so the search may end early.
            for (int size = 1; size <= MOST_SPIN && fitted != all; size++) {
                tryTurn(size);
                if (size < MOST_SPIN) {
                    tryTurn(-size);
                }
            }
            return true;
        }

        /** Takes a turn if it fits more photos than the one that was found so far. */
        private void tryTurn(int tried) {
            tryBeginning(tried, 0, false);
            // With the beginning going up from 0, a photo more fits only where one's
            // range of beginnings starts: no other one can be the least of the best.
            for (int photo = 0; photo < photos.size; photo++) {
                if (photos.isMarked(photo)) {
                    int leastAngle = photos.rows[ANGLE][photo] - photos.rows[ANGLE_ERROR][photo];
                    int start = angleOf(-tried, leastAngle, photos.rows[TIME][photo]);
                    tryBeginning(tried, start, tried == turn && start < beginning);
                }
            }
        }

        private void tryBeginning(int tried, int start, boolean winsEqual) {
            int set = fittedBy(tried, start);
            int more = Integer.bitCount(set) - Integer.bitCount(fitted);
            if (more > 0 || (more == 0 && winsEqual)) {
                turn = tried;
                beginning = start;
                fitted = set;
            }
        }
    }
}
