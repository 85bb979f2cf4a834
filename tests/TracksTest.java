/** The boundaries of "Terms", TRACKS: rows that fit by a hair, the fewest, the longest first, their arcs. */
public final class TracksTest {
    /** Photos at the times 0, 1, 2 and so on with x = 0: a height and an error in turn. */
    private static DiscArcs wide(int... heightsAndErrors) {
        DiscArcs disc = new DiscArcs();
        for (int i = 0; i < heightsAndErrors.length; i += 2) {
            disc.addPhoto(i / 2, 0, heightsAndErrors[i], heightsAndErrors[i + 1]);
        }
        return disc;
    }

    private static String longest(DiscArcs disc) {
        StringBuilder words = new StringBuilder();
        for (int photo = 0; photo < disc.count(0); photo++) {
            words.append(disc.fitsFrom(photo)).append(' ');
        }
        return words.toString().strip();
    }

    private static void fewPhotos() {
        Check.says("A row fits if it has at most two photos");
        Check.due("none", Check.rows(new DiscArcs()), "");
        Check.due("no rows", new DiscArcs().count(3), 0);
        DiscArcs one = Check.heights(50);
        Check.due("one", one.count(3), 1);
        Check.due("one", Check.rows(one), "1");
        Check.due("the arc of one", Check.rowArc(one, 0), "-5 -5 -5");
        Check.due("the longest of one", longest(one), "1");
        DiscArcs two = Check.heights(400, -400);
        Check.due("two", two.count(3), 1);
        Check.due("two", Check.rows(two), "11");
        Check.due("the arc of two", Check.rowArc(two, 0), "-5 -5 -5");
        Check.due("the longest of two", longest(two), "2 1");
        DiscArcs three = Check.heights(400, -400, 400);
        Check.due("three", Check.rows(three), "111");
        Check.due("the arc of three", Check.rowArc(three, 0), "0 1 2");
        Check.due("the longest of three", longest(three), "3 2 1");
        Check.says("or if there is an arc through three of its photos that hits all of them.");
        DiscArcs four = Check.heights(100, 99, 96, 91);
        Check.due("four on an arc", Check.rows(four), "1111");
        Check.due("the longest of four", longest(four), "4 3 2 1");
        four.move(3, 0, 92);
        Check.due("four not on an arc", Check.rows(four), "111 1000");
        Check.due("the arc of the one left", Check.rowArc(four, 1), "-5 -5 -5");
        Check.due("the longest of these four", longest(four), "3 3 2 1");
        four.move(3, 1, 91);
        Check.due("four not on an arc in x", Check.rows(four), "111 1000");
        DiscArcs error = wide(100, 0, 99, 0, 96, 0, 92, 1);
        Check.due("as far as the error", Check.rows(error), "1111");
        error.move(3, 0, 90);
        Check.due("as far below", Check.rows(error), "1111");
        error.move(3, 0, 89);
        Check.due("farther below", Check.rows(error), "111 1000");
        error.move(3, 0, 93);
        Check.due("farther above", Check.rows(error), "111 1000");
    }

    private static void theFewest() {
        Check.says("The track has as few rows as can be, all of which fit");
        // Of a curve of degree 3 no four lie on an arc.
        DiscArcs ten = Check.heights(0, 1, 8, 27, 64, 125, 216, 343, 112, 29);
        Check.due("ten, three by three", Check.rows(ten), "111 111000 111000000 1000000000");
        Check.due("the longest", longest(ten), "3 3 3 3 3 3 3 3 2 1");
        Check.due("rows", ten.count(3), 4);
        ten.remove(9);
        Check.due("nine, three by three", Check.rows(ten), "111 111000 111000000");
        DiscArcs line = Check.heights(0, 1, 2, 3, 4, 5, 6, 7, 8, 9);
        Check.due("ten on a line", Check.rows(line), "1111111111");
        Check.due("the longest", longest(line), "10 9 8 7 6 5 4 3 2 1");
        // The first three fit, but the last four do not without the one ahead of them.
        DiscArcs late = wide(200, 0, -300, 0, 0, 0, 0, 0, 0, 0, 10, 10, -10, 10);
        Check.due("a shorter first row", Check.rows(late), "11 1111100");
        Check.due("the longest first row alone", late.fitsFrom(0), 3);
        Check.due("the rest behind it", late.fitsFrom(3), 3);
        DiscArcs later = wide(350, 0, -350, 0, 100, 0, 200, 0, -300, 0, 0, 0, 0, 0, 0, 0, 10, 10, -10, 10);
        Check.due("a shorter second row", Check.rows(later), "111 11000 1111100000");
        Check.due("the longest second row alone", later.fitsFrom(3), 3);
    }

    private static void theLongestFirst() {
        Check.says("of several tracks the one whose first row is the longest, then the second one, and so on.");
        Check.due("four and three", Check.rows(Check.heights(0, 0, 0, 0, 9, 50, 0)), "1111 1110000");
        Check.due("three and one", Check.rows(Check.heights(0, 1, 8, 27)), "111 1000");
        // 4 4 1, 4 3 2, 4 2 3 and 3 5 1 have three rows.
        Check.due("then the second", Check.rows(Check.heights(9, 5, 2, 0, 0, 0, 0, 0, 9)), "1111 11110000 100000000");
        // 3 5 1, 3 4 2, 3 3 3 and 2 6 1.
        Check.due("ahead of a long second",
                Check.rows(Check.heights(1, 0, 0, 0, 0, 0, 0, 0, 1)), "111 11111000 100000000");
    }

    private static void fitsOnlyIfLonger() {
        Check.says("Returns the greatest number of usable photos (also if fewer would not)");
        // Only the arc through the last three hits all five; the first four do not fit.
        DiscArcs disc = wide(5, 5, -9, 9, 0, 0, 0, 0, 0, 0);
        Check.due("five", disc.fitsFrom(0), 5);
        Check.due("one row", Check.rows(disc), "11111");
        Check.due("its arc", Check.rowArc(disc, 0), "2 3 4");
        disc.setAside(4, true);
        Check.due("four do not", disc.fitsFrom(0), 3);
        Check.due("two rows", Check.rows(disc), "111 1000");
        disc.setAside(4, false);
        disc.move(4, 0, 1);
        Check.due("nor these five", disc.fitsFrom(0), 3);
        Check.due("the longest of the others", longest(disc), "3 3 3 2 1");
        Check.says("UNKNOWN; NOT_POSSIBLE if it is set aside.");
        DiscArcs line = Check.heights(0, 1, 2, 3, 4, 5);
        line.setAside(2, true);
        line.setAside(5, true);
        Check.due("around those aside", longest(line), "4 3 -4 2 1 -4");
        line.setAside(3, true);
        line.setAside(4, true);
        Check.due("the last usable one", longest(line), "2 1 -4 -4 -4 -4");
    }

    private static void rowsAroundThoseAside() {
        Check.says("A track parts the usable photos, in the order of their times");
        DiscArcs disc = Check.heights(300, 0, 0, 300, 0, 9, 50, 0, 9, 300);
        disc.setAside(0, true);
        disc.setAside(3, true);
        disc.setAside(9, true);
        Check.due("rows", Check.rows(disc), "10110 11100000 100000000");
        int[][] ends = {{1, 4}, {5, 7}, {8, 8}};
        for (int row = 0; row < 3; row++) {
            Check.due("first of row " + row, disc.track(row, 0), ends[row][0]);
            Check.due("last of row " + row, disc.track(row, 1), ends[row][1]);
        }
        Check.due("the arc of the first", Check.rowArc(disc, 0), "1 2 4");
        Check.due("the arc of the second", Check.rowArc(disc, 1), "5 6 7");
        disc.setAside(8, true);
        Check.due("without those at the end", Check.rows(disc), "10110 11100000");
        disc.setAside(2, true);
        disc.setAside(4, true);
        Check.due("with one photo more ahead", Check.rows(disc), "1100010 10000000");
        Check.due("last of it", disc.track(0, 1), 6);
        Check.due("first of the next", disc.track(1, 0), 7);
        Check.says("NONE if there are not so many rows.");
        int[] rows = {2, 3, 10, 32, Check.MOST};
        for (int row : rows) {
            for (int what = 0; what <= 5; what++) {
                Check.due("track(" + row + ", " + what + ")", disc.track(row, what), Check.NONE);
            }
        }
        Check.due("the last row", disc.track(1, 2), 128);
    }

    private static void arcsOfRows() {
        Check.says("3 to 5 for the photos of its arc (NONE if it has fewer than three photos)");
        DiscArcs disc = Check.heights(0, 1, 8, 27, 64);
        Check.due("of three", Check.rowArc(disc, 0), "0 1 2");
        Check.due("of two", Check.rowArc(disc, 1), "-5 -5 -5");
        Check.says("the one with the lowest first photo, then the second one, then the third one, that hits all");
        Check.due("the first three", Check.rowArc(wide(0, 0, 0, 0, 0, 0, 1, 1), 0), "0 1 2");
        Check.due("all arcs hit all", Check.rowArc(wide(0, 5, 1, 5, 0, 5, 1, 5), 0), "0 1 2");
        Check.due("another third", Check.rowArc(wide(0, 0, 0, 0, 1, 1, 0, 0), 0), "0 1 3");
        Check.due("another second", Check.rowArc(wide(0, 0, 1, 1, 0, 0, 0, 0), 0), "0 2 3");
        Check.due("another first", Check.rowArc(wide(1, 1, 0, 0, 0, 0, 0, 0), 0), "1 2 3");
        Check.due("another second and third", Check.rowArc(wide(0, 0, 1, 1, 1, 1, 0, 0, 0, 0), 0), "0 3 4");
        // 0 1 5 and 0 2 3 hit all, as others do.
        Check.due("the second ahead of the third",
                Check.rowArc(wide(3, 1, -2, 1, -3, 2, -3, 2, -3, 2, 3, 0), 0), "0 1 5");
        // 0 4 5 and 2 3 4 hit all, and no other one does.
        Check.due("the first ahead of the second",
                Check.rowArc(wide(0, 2, 3, 2, 1, 2, 1, 3, 1, 3, 0, 1), 0), "0 4 5");
        DiscArcs lower = wide(0, 0, 0, 0, 1, 1, 0, 0, 300, 0, 9, 0, 0, 0);
        Check.due("rows", Check.rows(lower), "1111 1110000");
        Check.due("the first row's", Check.rowArc(lower, 0), "0 1 3");
        Check.due("the second row's", Check.rowArc(lower, 1), "4 5 6");
    }

    public static void main(String[] args) {
        fewPhotos();
        theFewest();
        theLongestFirst();
        fitsOnlyIfLonger();
        rowsAroundThoseAside();
        arcsOfRows();
        Check.end();
    }
}
