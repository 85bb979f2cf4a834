/**
 * The range of each argument: the last values that are taken on both sides, and
 * the first that are refused; and the order of the checks.
 */
public final class RangesTest {
    private interface Call {
        long with(int value);
    }

    /** A call takes the values from least to most, and answers all others with this error. */
    private static void range(String what, int least, int most, int error, Call call) {
        taken(what, least, call);
        taken(what, most, call);
        taken(what, least + (most - least) / 2, call);
        long[] outside = {(long) least - 1, (long) most + 1, (long) least - 256, (long) most + 256,
            (long) least - 65536, (long) most + 65536, Check.LEAST, Check.MOST};
        for (long value : outside) {
            if (value >= Check.LEAST && value <= Check.MOST && (value < least || value > most)) {
                Check.due(what + " " + value, call.with((int) value), error);
            }
        }
    }

    private static void taken(String what, int value, Call call) {
        long answer = call.with(value);
        Check.due(what + " " + value + " is taken (" + answer + ")",
                answer >= 0 || answer == Check.NONE ? 1 : 0, 1);
    }

    /** Four photos on one arc, all usable, one of them with an angle. */
    private static DiscArcs four() {
        DiscArcs disc = Check.heights(100, 96, 84, 64);
        disc.setAngle(1, 30, 3);
        return disc;
    }

    private static void rangesOfPhotos() {
        Check.says("time: 0 to 99");
        range("addPhoto: time", 0, 99, Check.BAD_VALUE, v -> new DiscArcs().addPhoto(v, 0, 0, 0));
        Check.says("x: -400 to 400");
        range("addPhoto: x", -400, 400, Check.BAD_VALUE, v -> new DiscArcs().addPhoto(0, v, 0, 0));
        range("move: x", -400, 400, Check.BAD_VALUE, v -> four().move(0, v, 1));
        Check.says("y: -400 to 400");
        range("addPhoto: y", -400, 400, Check.BAD_VALUE, v -> new DiscArcs().addPhoto(0, 0, v, 0));
        range("move: y", -400, 400, Check.BAD_VALUE, v -> four().move(0, 1, v));
        Check.says("error: 0 to 40");
        range("addPhoto: error", 0, 40, Check.BAD_VALUE, v -> new DiscArcs().addPhoto(0, 0, 0, v));
        Check.says("angle: 0 to 359, or 360 for none");
        range("setAngle: angle", 0, 360, Check.BAD_VALUE, v -> four().setAngle(1, v, 0));
        Check.says("error: 0 to 60");
        range("setAngle: error", 0, 60, Check.BAD_VALUE, v -> four().setAngle(1, 0, v));
        range("setAngle: error at 359", 0, 60, Check.BAD_VALUE, v -> four().setAngle(1, 359, v));
        Check.says("0 is to be told if the angle is 360");
        range("setAngle: error at 360", 0, 0, Check.BAD_VALUE, v -> four().setAngle(1, 360, v));
        range("setAngle: error at none", 0, 0, Check.BAD_VALUE, v -> four().setAngle(0, 360, v));
    }

    private static void rangesOfPhotoNumbers() {
        Check.says("UNKNOWN: There is no such photo.");
        range("setAngle: photo", 0, 3, Check.UNKNOWN, v -> four().setAngle(v, 0, 0));
        range("move: photo", 0, 3, Check.UNKNOWN, v -> four().move(v, 1, 1));
        range("setAside: photo", 0, 3, Check.UNKNOWN, v -> four().setAside(v, true));
        range("setAside: photo, back", 0, 3, Check.UNKNOWN, v -> four().setAside(v, false));
        range("remove: photo", 0, 3, Check.UNKNOWN, v -> four().remove(v));
        range("photo: photo", 0, 3, Check.UNKNOWN, v -> four().photo(v, 0));
        range("photo: photo, whether it fits", 0, 3, Check.UNKNOWN, v -> four().photo(v, 7));
        range("fitsFrom: photo", 0, 3, Check.UNKNOWN, v -> four().fitsFrom(v));
        int[] outside = {-1, 4, 32, 36, -28, 256, 65536, Check.LEAST, Check.MOST};
        for (int v : outside) {
            Check.due("arc: one " + v, four().arc(v, 0, 3, 0, 0, 0), Check.UNKNOWN);
            Check.due("arc: two " + v, four().arc(0, v, 3, 0, 0, 0), Check.UNKNOWN);
            Check.due("arc: three " + v, four().arc(0, 3, v, 0, 0, 0), Check.UNKNOWN);
            Check.due("hits: one " + v, four().hits(v, 0, 3), Check.UNKNOWN);
            Check.due("hits: two " + v, four().hits(0, v, 3), Check.UNKNOWN);
            Check.due("hits: three " + v, four().hits(0, 3, v), Check.UNKNOWN);
        }
        int[][] inside = {{0, 1, 3}, {1, 0, 3}, {3, 1, 0}, {0, 3, 1}};
        for (int[] v : inside) {
            // The arc through 100, 96 and 64 at the times 0, 1 and 3.
            Check.due("arc: of held ones", four().arc(v[0], v[1], v[2], 0, 1, 0), Check.SHIFT + 100);
            Check.due("hits: of held ones", four().hits(v[0], v[1], v[2]), 15);
        }
        range("photo of ten", 0, 9, Check.UNKNOWN, v -> Check.full().photo(v, 0));
        range("photo of one", 0, 0, Check.UNKNOWN, v -> Check.heights(5).photo(v, 0));
        for (int photo = -1; photo <= 1; photo++) {
            Check.due("of none: setAngle", new DiscArcs().setAngle(photo, 0, 0), Check.UNKNOWN);
            Check.due("of none: move", new DiscArcs().move(photo, 0, 0), Check.UNKNOWN);
            Check.due("of none: setAside", new DiscArcs().setAside(photo, true), Check.UNKNOWN);
            Check.due("of none: remove", new DiscArcs().remove(photo), Check.UNKNOWN);
            Check.due("of none: photo", new DiscArcs().photo(photo, 0), Check.UNKNOWN);
            Check.due("of none: fitsFrom", new DiscArcs().fitsFrom(photo), Check.UNKNOWN);
            Check.due("of none: arc", new DiscArcs().arc(photo, 1, 2, 0, 0, 0), Check.UNKNOWN);
            Check.due("of none: hits", new DiscArcs().hits(photo, 1, 2), Check.UNKNOWN);
        }
    }

    private static void rangesOfQuestions() {
        Check.says("BAD_VALUE: Another argument is out of range.");
        range("photo: what", 0, 7, Check.BAD_VALUE, v -> four().photo(1, v));
        range("arc: time", 0, 99, Check.BAD_VALUE, v -> four().arc(0, 1, 2, v, 1, 0));
        range("arc: what", 0, 1, Check.BAD_VALUE, v -> four().arc(0, 1, 2, 1, v, 0));
        range("arc: part", 0, 1, Check.BAD_VALUE, v -> four().arc(0, 1, 2, 1, 1, v));
        range("best: what", 0, 4, Check.BAD_VALUE, v -> four().best(v));
        range("bestAt: time", 0, 99, Check.BAD_VALUE, v -> four().bestAt(v, 1, 0));
        range("bestAt: what", 0, 1, Check.BAD_VALUE, v -> four().bestAt(1, v, 0));
        range("bestAt: part", 0, 1, Check.BAD_VALUE, v -> four().bestAt(1, 1, v));
        range("track: row", 0, Check.MOST, Check.BAD_VALUE, v -> four().track(v, 0));
        range("track: what", 0, 5, Check.BAD_VALUE, v -> four().track(0, v));
        range("spin: what", 0, 3, Check.BAD_VALUE, v -> four().spin(v));
        range("fits: spin", -179, 180, Check.BAD_VALUE, v -> four().fits(v, 0));
        range("fits: beginning", 0, 359, Check.BAD_VALUE, v -> four().fits(0, v));
        range("angleAt: time", 0, 99, Check.BAD_VALUE, v -> four().angleAt(v));
        range("count: what", 0, 5, Check.BAD_VALUE, v -> four().count(v));
    }

    /** On an object without photos no other error stands ahead of or behind these. */
    private static void rangesWithoutPhotos() {
        Check.says("Where several errors can apply, the order of the @return line is the order of the checks.");
        int[] outside = {-1, 8, Check.LEAST, Check.MOST};
        for (int value : outside) {
            Check.due("best", new DiscArcs().best(value), Check.BAD_VALUE);
            Check.due("bestAt", new DiscArcs().bestAt(0, value, 0), Check.BAD_VALUE);
            Check.due("track", new DiscArcs().track(0, value), Check.BAD_VALUE);
            Check.due("spin", new DiscArcs().spin(value), Check.BAD_VALUE);
            Check.due("fits", new DiscArcs().fits(0, value == 8 ? 360 : value), Check.BAD_VALUE);
            Check.due("angleAt", new DiscArcs().angleAt(value == 8 ? 100 : value), Check.BAD_VALUE);
            Check.due("count", new DiscArcs().count(value), Check.BAD_VALUE);
        }
        Check.due("best in range", new DiscArcs().best(4), Check.NOT_POSSIBLE);
        Check.due("bestAt in range", new DiscArcs().bestAt(99, 1, 1), Check.NOT_POSSIBLE);
        Check.due("track in range", new DiscArcs().track(0, 5), Check.NONE);
        Check.due("spin in range", new DiscArcs().spin(3), Check.NOT_POSSIBLE);
        Check.due("angleAt in range", new DiscArcs().angleAt(99), Check.NOT_POSSIBLE);
        Check.due("fits in range", new DiscArcs().fits(180, 359), 0);
    }

    private static void orderOfTheChecksOfPhotos() {
        Check.says("BAD_VALUE; NOT_POSSIBLE if there is one of this time; FULL if there are 10.");
        int[][] bad = {{90, 401, 0, 0}, {90, 0, -401, 0}, {90, 0, 0, 41}, {100, 0, 0, 0}, {91, 0, 0, -1}};
        for (int[] b : bad) {
            Check.due("BAD_VALUE of ten", Check.full().addPhoto(b[0], b[1], b[2], b[3]), Check.BAD_VALUE);
        }
        Check.due("NOT_POSSIBLE of ten", Check.full().addPhoto(90, 0, 0, 0), Check.NOT_POSSIBLE);
        Check.due("FULL of ten", Check.full().addPhoto(91, 0, 0, 0), Check.FULL);
        Check.due("BAD_VALUE of one", Check.heights(1).addPhoto(0, 401, 0, 0), Check.BAD_VALUE);
        Check.says("-100 minus the fault; BAD_VALUE; NOT_POSSIBLE; FULL if there are 10.");
        Check.due("the fault, with all others", Check.read(Check.full(), "90:999,0,0@"), -111);
        Check.due("the fault, out of range", Check.read(new DiscArcs(), "100:401,401,41@400,"), -119);
        Check.due("the fault, of one time", Check.read(Check.full(), "90:0,0,0 "), -108);
        Check.due("BAD_VALUE of ten", Check.read(Check.full(), "90:0,0,0@0,61"), Check.BAD_VALUE);
        Check.due("BAD_VALUE of one", Check.read(Check.heights(1), "0:0,0,0@360,0"), Check.BAD_VALUE);
        Check.due("NOT_POSSIBLE of ten", Check.read(Check.full(), "90:0,0,0"), Check.NOT_POSSIBLE);
        Check.due("FULL of ten", Check.read(Check.full(), "91:0,0,0"), Check.FULL);
        Check.says("UNKNOWN; BAD_VALUE; NONE if both are so already.");
        Check.due("UNKNOWN ahead of the angle", four().setAngle(4, 361, 0), Check.UNKNOWN);
        Check.due("UNKNOWN ahead of the error", four().setAngle(-1, 0, 61), Check.UNKNOWN);
        Check.due("UNKNOWN ahead of 360 with an error", four().setAngle(4, 360, 1), Check.UNKNOWN);
        Check.due("UNKNOWN ahead of NONE", four().setAngle(4, 360, 0), Check.UNKNOWN);
        Check.due("BAD_VALUE ahead of NONE", four().setAngle(0, 360, 1), Check.BAD_VALUE);
        Check.due("NONE", four().setAngle(0, 360, 0), Check.NONE);
        Check.says("UNKNOWN; BAD_VALUE; NONE if it is there already.");
        Check.due("UNKNOWN ahead of x", four().move(4, 401, 0), Check.UNKNOWN);
        Check.due("UNKNOWN ahead of y", four().move(-1, 0, -401), Check.UNKNOWN);
        Check.due("BAD_VALUE where x is so already", four().move(0, 0, 401), Check.BAD_VALUE);
        Check.due("BAD_VALUE where y is so already", four().move(0, 401, 100), Check.BAD_VALUE);
        Check.says("UNKNOWN; NONE if it is so already.");
        Check.due("UNKNOWN ahead of NONE", four().setAside(4, false), Check.UNKNOWN);
    }

    private static void orderOfTheChecksOfQuestions() {
        Check.says("Returns the number; UNKNOWN; BAD_VALUE.");
        Check.due("UNKNOWN ahead of BAD_VALUE", four().photo(4, 8), Check.UNKNOWN);
        Check.due("UNKNOWN ahead of NONE", four().photo(4, 4), Check.UNKNOWN);
        Check.due("BAD_VALUE where another is NONE", four().photo(0, 8), Check.BAD_VALUE);
        Check.says("UNKNOWN (one, two or three); BAD_VALUE; NOT_POSSIBLE if any of them is set aside.");
        DiscArcs disc = four();
        disc.setAside(0, true);
        int[][] unknown = {{4, 0, 0}, {0, 4, 0}, {0, 0, 4}, {4, 4, 4}, {-1, -1, -1}, {-1, 0, 1}, {1, 2, -1}};
        for (int[] u : unknown) {
            Check.due("arc: UNKNOWN", disc.arc(u[0], u[1], u[2], 100, 2, 2), Check.UNKNOWN);
            Check.due("hits: UNKNOWN", disc.hits(u[0], u[1], u[2]), Check.UNKNOWN);
        }
        int[][] same = {{0, 0, 1}, {0, 1, 0}, {1, 0, 0}, {0, 0, 0}, {1, 1, 0}, {3, 3, 3}, {2, 1, 2}};
        for (int[] s : same) {
            Check.due("arc: BAD_VALUE", disc.arc(s[0], s[1], s[2], 0, 0, 0), Check.BAD_VALUE);
            Check.due("hits: BAD_VALUE", disc.hits(s[0], s[1], s[2]), Check.BAD_VALUE);
        }
        int[][] aside = {{0, 1, 2}, {1, 0, 2}, {3, 2, 0}};
        for (int[] a : aside) {
            Check.due("arc: BAD_VALUE of time", disc.arc(a[0], a[1], a[2], 100, 0, 0), Check.BAD_VALUE);
            Check.due("arc: BAD_VALUE of what", disc.arc(a[0], a[1], a[2], 0, 2, 0), Check.BAD_VALUE);
            Check.due("arc: BAD_VALUE of part", disc.arc(a[0], a[1], a[2], 0, 0, 2), Check.BAD_VALUE);
            Check.due("arc: NOT_POSSIBLE", disc.arc(a[0], a[1], a[2], 0, 0, 0), Check.NOT_POSSIBLE);
            Check.due("hits: NOT_POSSIBLE", disc.hits(a[0], a[1], a[2]), Check.NOT_POSSIBLE);
        }
        Check.says("BAD_VALUE (row is negative, or what); NONE if there are not so many rows.");
        Check.due("track: BAD_VALUE ahead of NONE", disc.track(9, 6), Check.BAD_VALUE);
        Check.due("track: BAD_VALUE of row ahead of NONE", disc.track(-9, 3), Check.BAD_VALUE);
        Check.due("track: NONE", disc.track(9, 5), Check.NONE);
        Check.says("UNKNOWN; NOT_POSSIBLE if it is set aside.");
        Check.due("fitsFrom: UNKNOWN", disc.fitsFrom(4), Check.UNKNOWN);
        Check.due("fitsFrom: NOT_POSSIBLE", disc.fitsFrom(0), Check.NOT_POSSIBLE);
        Check.due("fitsFrom: neither", disc.fitsFrom(3), 1);
    }

    public static void main(String[] args) {
        rangesOfPhotos();
        rangesOfPhotoNumbers();
        rangesOfQuestions();
        rangesWithoutPhotos();
        orderOfTheChecksOfPhotos();
        orderOfTheChecksOfQuestions();
        Check.end();
    }
}
