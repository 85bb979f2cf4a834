/** The boundaries of "Terms", ARCS: exact fractions, hits by a hair, the best of several, the ground. */
public final class ArcsTest {
    private static void tells(String what, DiscArcs disc, int time, long upperOfY, long lower) {
        int[][] orders = {{0, 1, 2}, {0, 2, 1}, {1, 0, 2}, {1, 2, 0}, {2, 0, 1}, {2, 1, 0}};
        for (int[] o : orders) {
            Check.due(what + ", upper", disc.arc(o[0], o[1], o[2], time, 1, 0), Check.SHIFT + upperOfY);
            Check.due(what + ", lower", disc.arc(o[0], o[1], o[2], time, 1, 1), lower);
            // All of these have x = -y.
            Check.due(what + ", upper of x", disc.arc(o[0], o[1], o[2], time, 0, 0), Check.SHIFT - upperOfY);
            Check.due(what + ", lower of x", disc.arc(o[0], o[1], o[2], time, 0, 1), lower);
        }
        Check.due(what + ", upper of the best", disc.bestAt(time, 1, 0), Check.SHIFT + upperOfY);
        Check.due(what + ", lower of the best", disc.bestAt(time, 1, 1), lower);
        Check.due(what + ", upper of x of the best", disc.bestAt(time, 0, 0), Check.SHIFT - upperOfY);
        Check.due(what + ", lower of x of the best", disc.bestAt(time, 0, 1), lower);
    }

    /** Three photos at these times with these heights, and x below 0 where y is above. */
    private static DiscArcs three(int... timesAndHeights) {
        DiscArcs disc = new DiscArcs();
        for (int i = 0; i < 6; i += 2) {
            disc.addPhoto(timesAndHeights[i], -timesAndHeights[i + 1], timesAndHeights[i + 1], 0);
        }
        return disc;
    }

    private static void exactFractions() {
        Check.says("Fractions are told in lowest terms by their parts");
        tells("0", three(0, 0, 1, 0, 2, 0), 50, 0, 1);
        tells("0 where it crosses", three(0, 4, 2, 0, 4, -4), 2, 0, 1);
        tells("0 beyond its photos", three(0, 100, 2, 96, 4, 84), 10, 0, 1);
        tells("a whole number", three(0, 0, 2, 2, 4, 8), 3, 9, 2);
        tells("one alike", three(10, -7, 20, -7, 99, -7), 0, -7, 1);
        tells("a line", three(10, -10, 20, -20, 99, -99), 0, 0, 1);
        tells("a line at the last time", three(0, 0, 1, 1, 2, 2), 99, 99, 1);
        tells("a line of thirds", three(0, 0, 3, 1, 6, 2), 1, 1, 3);
        tells("a line of thirds below 0", three(0, 0, 3, -1, 6, -2), 1, -1, 3);
        tells("a line of thirds, shortened", three(0, 0, 3, 1, 6, 2), 99, 33, 1);
        tells("at its first photo", three(0, 400, 49, 399, 99, -400), 0, 400, 1);
        tells("at its second photo", three(0, 400, 49, 399, 99, -400), 49, 399, 1);
        tells("at its third photo", three(0, 400, 49, 399, 99, -400), 99, -400, 1);
        Check.says("10000000000 is added to an upper number, so that it is never below 0; 1 for the lower (above 0)");
        tells("far above 0", three(0, 400, 1, -400, 2, 400), 99, 7682800, 1);
        tells("far below 0", three(97, -400, 98, 400, 99, -400), 0, -7682800, 1);
        tells("a great lower number", three(0, 400, 49, 399, 99, 398), 2, 48505003, 121275);
        tells("a great lower number below 0", three(0, -400, 49, -399, 99, -398), 2, -48505003, 121275);
        tells("a great upper number", three(0, 400, 23, -400, 58, 399), 99, 103420274, 23345);
        tells("a great upper number below 0", three(0, -400, 23, 400, 58, -399), 99, -103420274, 23345);
    }

    /** Three photos on 0 at the times 0, 2 and 4, and one with an error at the time 6. */
    private static DiscArcs flatAnd(int x, int y, int error) {
        DiscArcs disc = new DiscArcs();
        disc.addPhoto(0, 0, 0, 0);
        disc.addPhoto(2, 0, 0, 0);
        disc.addPhoto(4, 0, 0, 0);
        disc.addPhoto(6, x, y, error);
        return disc;
    }

    private static void hitsAsFarAsTheError() {
        Check.says("An arc hits a photo if it is, in x and in y, not farther from its place than its error.");
        int[] errors = {0, 1, 39, 40};
        for (int e : errors) {
            int[][] hit = {{e, 0}, {-e, 0}, {0, e}, {0, -e}, {e, e}, {-e, e}, {e, -e}, {-e, -e}};
            for (int[] h : hit) {
                Check.due("as far as " + e, flatAnd(h[0], h[1], e).hits(0, 1, 2), 15);
            }
            int f = e + 1;
            int[][] missed = {{f, 0}, {-f, 0}, {0, f}, {0, -f}, {f, e}, {e, f}, {-f, -e}, {-e, -f}, {f, f}};
            for (int[] m : missed) {
                Check.due("farther than " + e, flatAnd(m[0], m[1], e).hits(0, 1, 2), 7);
            }
        }
        Check.due("from corner to corner", flatAnd(400, -400, 40).hits(0, 1, 2), 7);
    }

    private static void hitsByAHair() {
        Check.says("told as the fraction, which is exact");
        // At the time 2 the arc through 0, 1 and 0 at the times 0, 3 and 6 is at 8 / 9.
        int[][] hit = {{0, 1}, {1, 1}, {-1, 2}, {2, 2}, {40, 40}, {-39, 40}};
        int[][] missed = {{0, 0}, {1, 0}, {-1, 1}, {2, 1}, {41, 40}, {-40, 40}};
        for (int[] h : hit) {
            Check.due("8 / 9 from " + h[0] + " by " + h[1], eightNinths(h[0], h[1], false), 15);
            Check.due("8 / 9 in x from " + h[0] + " by " + h[1], eightNinths(h[0], h[1], true), 15);
        }
        for (int[] m : missed) {
            Check.due("8 / 9 from " + m[0] + " by " + m[1], eightNinths(m[0], m[1], false), 13);
            Check.due("8 / 9 in x from " + m[0] + " by " + m[1], eightNinths(m[0], m[1], true), 13);
        }
        DiscArcs far = Check.heights(400, -400, 400);
        far.addPhoto(99, 0, 400, 40);
        Check.due("far away", far.hits(0, 1, 2), 7);
        Check.due("its own three", far.hits(3, 1, 0), 11);
    }

    private static int eightNinths(int place, int error, boolean inX) {
        DiscArcs disc = new DiscArcs();
        disc.addPhoto(0, 0, 0, 0);
        disc.addPhoto(3, inX ? 1 : 0, inX ? 0 : 1, 0);
        disc.addPhoto(6, 0, 0, 0);
        disc.addPhoto(2, inX ? place : 0, inX ? 0 : place, error);
        return disc.hits(0, 2, 3);
    }

    private static void bitsOfPhotos() {
        Check.says("Sets of photos are told as bits: 1 for the photo 0, 2 for 1, 4 for 2, and so on.");
        DiscArcs disc = Check.heights(0, 0, 0, 0, 0, 0, 0, 0, 0, 0);
        Check.due("all ten", disc.hits(0, 1, 2), 1023);
        Check.due("all ten from the end", disc.hits(9, 8, 7), 1023);
        disc.move(9, 0, 1);
        Check.due("all but the last", disc.hits(0, 1, 2), 511);
        Check.due("the last is missed", disc.best(4), 512);
        disc.move(9, 0, 0);
        disc.move(0, 0, 1);
        Check.due("all but the first", disc.hits(1, 2, 9), 1022);
        Check.due("the first is missed", disc.best(4), 1);
        disc.setAside(5, true);
        Check.due("but one aside", disc.hits(1, 2, 9), 990);
        Check.due("the first alone is missed", disc.best(4), 1);
    }

    private static void theBestOfSeveral() {
        Check.says("The best arc is the one through three usable photos that misses the fewest");
        Check.due("three", Check.best(Check.heights(5, -9, 7)), "0 1 2 0 0");
        Check.due("four, none missed", Check.best(Check.heights(0, 1, 4, 9)), "0 1 2 0 0");
        Check.due("the first is off", Check.best(Check.heights(9, 0, 0, 0, 0)), "1 2 3 1 1");
        Check.due("the first two are off", Check.best(Check.heights(9, 31, 0, 0, 0, 0)), "2 3 4 2 3");
        Check.due("the last ones alone", Check.best(Check.heights(9, 31, 77, 5, 200, 0, 0, 0, 0)), "5 6 7 5 31");
        Check.says("of several the one with the lowest first photo");
        // y = 0 at 0, 4, 5 and 6; y = 3 * t * t + 4 at 1, 2, 3 and 7: each misses four.
        DiscArcs first = Check.heights(0, 7, 16, 31, 0, 0, 0, 151);
        Check.due("others miss as few", first.hits(1, 2, 3), 0b10001110);
        Check.due("the lowest first", Check.best(first), "0 4 5 4 " + 0b10001110);
        first.addPhoto(8, 0, 196, 0);
        Check.due("fewer missed go ahead", Check.best(first), "1 2 3 4 " + 0b1110001);
        Check.says("then the lowest second one");
        // y = 0 at 0, 1, 6 and 7; y = 10 * t * t at 0, 2, 3 and 4.
        DiscArcs second = Check.heights(0, 0, 40, 90, 160, 50, 0, 0);
        Check.due("others miss as few", second.hits(0, 2, 3), 0b11101);
        Check.due("the lowest second", Check.best(second), "0 1 6 4 " + 0b111100);
        second.addPhoto(8, 0, 0, 0);
        second.setAside(1, true);
        Check.due("the lowest second without it", Check.best(second), "0 2 3 4 " + 0b111100000);
        Check.says("then the lowest third one.");
        Check.due("the lowest third", Check.best(Check.heights(0, 0, 77, 0, 0, 31)), "0 1 3 2 36");
        Check.due("all miss one", Check.best(Check.heights(0, 0, 0, 1)), "0 1 2 1 8");
        Check.due("by another's error", Check.best(withOneThatIsWide()), "0 1 3 0 0");
    }

    /** All lie on 0 but the photo 2, whose error of 1 reaches as far as 0. */
    private static DiscArcs withOneThatIsWide() {
        DiscArcs disc = Check.heights(0, 0, 0, 0);
        disc.remove(2);
        disc.addPhoto(2, 0, 1, 1);
        return disc;
    }

    private static void noBestArc() {
        Check.says("NOT_POSSIBLE if there is none (fewer than three usable photos).");
        DiscArcs disc = new DiscArcs();
        int[] due = {Check.NOT_POSSIBLE, Check.NOT_POSSIBLE, Check.NOT_POSSIBLE, 0, 0};
        for (int photos = 0; photos < due.length; photos++) {
            Check.due("best of " + photos, disc.best(3), due[photos]);
            Check.due("lands of " + photos, disc.lands(), due[photos]);
            Check.due("bestAt of " + photos, disc.bestAt(0, 0, 0), due[photos] == 0 ? Check.SHIFT : due[photos]);
            Check.due("dropMissed of " + photos, disc.dropMissed(), due[photos] == 0 ? Check.NONE : due[photos]);
            disc.addPhoto(photos, 0, 0, 0);
        }
        disc.setAside(0, true);
        disc.setAside(2, true);
        Check.due("three usable of five", Check.best(disc), "1 3 4 0 0");
        disc.setAside(3, true);
        Check.due("two usable of five", disc.best(0), Check.NOT_POSSIBLE);
        Check.due("lands of two usable", disc.lands(), Check.NOT_POSSIBLE);
        Check.due("bestAt of two usable", disc.bestAt(0, 0, 0), Check.NOT_POSSIBLE);
        Check.due("dropMissed of two usable", disc.dropMissed(), Check.NOT_POSSIBLE);
        Check.says("Returns how many photos the best arc misses then (0 if there is none)");
        Check.due("of two usable", disc.move(4, 300, 300), 0);
        disc.setAside(3, false);
        Check.due("of three usable", disc.move(4, 300, 301), 0);
        disc.setAside(2, false);
        Check.due("of four usable, one missed", disc.move(4, 300, 302), 1);
        Check.due("of four usable, none missed", disc.move(4, 0, 0), 0);
        disc.setAside(0, false);
        disc.move(0, 9, 9);
        Check.due("of five usable, two missed", disc.move(4, 300, 302), 2);
    }

    private static void dropMissed() {
        Check.says("Sets all photos aside that the best arc misses.");
        DiscArcs disc = Check.heights(9, 0, 0, 31, 0, 0, 0, 77, 0, 5);
        disc.setAside(8, true);
        Check.due("all that are missed", disc.dropMissed(), 4);
        Check.due("the others are usable", disc.count(1), 0b1110110);
        int[] aside = {1, 0, 0, 1, 0, 0, 0, 1, 1, 1};
        for (int photo = 0; photo < aside.length; photo++) {
            Check.due("whether " + photo + " is aside", disc.photo(photo, 6), aside[photo]);
        }
        Check.due("none missed any more", disc.dropMissed(), Check.NONE);
        Check.due("no state is recorded then", disc.count(4), 4);
        Check.due("one missed", Check.heights(0, 0, 0, 1).dropMissed(), 1);
        Check.due("none missed", Check.heights(0, 0, 0, 0).dropMissed(), Check.NONE);
        Check.due("as far as the error", flatAnd(40, -40, 40).dropMissed(), Check.NONE);
        Check.due("farther than the error", flatAnd(41, -40, 40).dropMissed(), 1);
        DiscArcs most = Check.heights(0, 1, 8, 27, 64, 125, 216, 343);
        // No fourth one lies on an arc through three of a curve of degree 3.
        Check.due("all but three", most.dropMissed(), 5);
        Check.due("the first three stay", most.count(1), 7);
    }

    private static void landsAtWholeTimes() {
        Check.says("the first whole time at which y is 0 or less");
        Check.due("at its first photo", Check.heights(0, 5, 9).lands(), 0);
        Check.due("below 0 at its first photo", Check.heights(-1, 5, 9).lands(), 0);
        Check.due("1 at its first photo", Check.heights(1, 0, 9).lands(), 1);
        Check.due("at its third photo", Check.heights(2, 1, 0).lands(), 2);
        Check.due("behind its photos", Check.heights(4, 3, 2).lands(), 4);
        // y = 8 * t * t - 8 * t + 1 is below 0 at 1 / 2 alone.
        Check.due("between two whole times", Check.heights(1, 1, 17).lands(), Check.NONE);
        // y = (t - 2) * (t - 2) is 0 at 2 alone.
        Check.due("on 0 once", Check.heights(4, 1, 0).lands(), 2);
        Check.due("just above 0 at the least", Check.heights(5, 2, 1).lands(), Check.NONE);
        DiscArcs halves = new DiscArcs();
        halves.addPhoto(0, 0, 3, 0);
        halves.addPhoto(4, 0, 1, 0);
        halves.addPhoto(8, 0, -1, 0);
        Check.due("not where it is 1 / 2", halves.lands(), 6);
        halves.move(0, 0, 2);
        halves.move(1, 0, 0);
        halves.move(2, 0, 0);
        // y = (t - 4) * (t - 8) / 16.
        Check.due("on 0 and below it later", halves.lands(), 4);
    }

    private static void landsFromItsFirstPhotoOn() {
        Check.says("from that of its first photo on, up to 99");
        DiscArcs disc = new DiscArcs();
        disc.addPhoto(0, 0, 300, 0);
        for (int time = 2; time <= 5; time++) {
            disc.addPhoto(time, 0, time - 1, 0);
        }
        Check.due("the best arc", Check.best(disc), "1 2 3 1 1");
        Check.due("not ahead of its first photo", disc.lands(), Check.NONE);
        disc.move(1, 0, 0);
        disc.move(2, 0, 1);
        disc.move(3, 0, 2);
        disc.move(4, 0, 3);
        Check.due("at its first photo", disc.lands(), 2);
        DiscArcs hill = new DiscArcs();
        hill.addPhoto(3, 0, 5, 0);
        hill.addPhoto(4, 0, 6, 0);
        hill.addPhoto(5, 0, 5, 0);
        // y = 6 - (t - 4) * (t - 4).
        Check.due("behind the hill", hill.lands(), 7);
        Check.due("0 at 99", Check.heights(99, 98, 97).lands(), 99);
        Check.due("1 at 99", Check.heights(100, 99, 98).lands(), Check.NONE);
        Check.due("0 at 98", Check.heights(98, 97, 96).lands(), 98);
        DiscArcs half = new DiscArcs();
        half.addPhoto(0, 0, 50, 0);
        half.addPhoto(2, 0, 49, 0);
        half.addPhoto(4, 0, 48, 0);
        Check.due("1 / 2 at 99", half.lands(), Check.NONE);
        half.move(0, 0, 49);
        half.move(1, 0, 48);
        half.move(2, 0, 47);
        Check.due("0 at 98, by halves", half.lands(), 98);
        DiscArcs last = new DiscArcs();
        last.addPhoto(97, 0, 2, 0);
        last.addPhoto(98, 0, 1, 0);
        last.addPhoto(99, 0, 0, 0);
        Check.due("at the last photo", last.lands(), 99);
        last.move(2, 0, 1);
        Check.due("above it at the last photo", last.lands(), Check.NONE);
    }

    public static void main(String[] args) {
        exactFractions();
        hitsAsFarAsTheError();
        hitsByAHair();
        bitsOfPhotos();
        theBestOfSeveral();
        noBestArc();
        dropMissed();
        landsAtWholeTimes();
        landsFromItsFirstPhotoOn();
        Check.end();
    }
}
