/** What the tests share: due answers, and objects to begin with. */
final class Check {
    static final int UNKNOWN = -1;
    static final int BAD_VALUE = -2;
    static final int FULL = -3;
    static final int NOT_POSSIBLE = -4;
    static final int NONE = -5;
    static final int LEAST = Integer.MIN_VALUE;
    static final int MOST = Integer.MAX_VALUE;
    static final long SHIFT = 10000000000L;

    private static int wrong = 0;
    private static String sentence = "";

    private Check() {
    }

    /** Names the sentence of the document that the next answers are due by. */
    static void says(String words) {
        sentence = words;
    }

    static void due(String what, long got, long want) {
        due(what, Long.toString(got), Long.toString(want));
    }

    static void due(String what, String got, String want) {
        if (!got.equals(want)) {
            wrong++;
            System.out.println("\"" + sentence + "\": " + what + " answered " + got + ", due is " + want);
        }
    }

    /** Ends the test: with exit code 1 if an answer was not as due. */
    static void end() {
        System.out.println(wrong == 0 ? "all answers are as due" : wrong + " answers are not as due");
        if (wrong != 0) {
            System.exit(1);
        }
    }

    static void write(DiscArcs disc, String text) {
        disc.clearText();
        type(disc, text);
    }

    static void type(DiscArcs disc, String text) {
        for (int i = 0; i < text.length(); i++) {
            disc.type(text.charAt(i));
        }
    }

    static int read(DiscArcs disc, String text) {
        write(disc, text);
        return disc.readPhoto();
    }

    /** Photos at the times 0, 1, 2 and so on, all with x = 0 and without an error. */
    static DiscArcs heights(int... heights) {
        DiscArcs disc = new DiscArcs();
        for (int i = 0; i < heights.length; i++) {
            disc.addPhoto(i, 0, heights[i], 0);
        }
        return disc;
    }

    /** Ten photos at the times 0, 10, 20 and so on. */
    static DiscArcs full() {
        DiscArcs disc = new DiscArcs();
        for (int i = 0; i < 10; i++) {
            disc.addPhoto(10 * i, i, -i, i);
        }
        return disc;
    }

    /** Photos at the times 0, 1, 2 and so on, with these angles, all without an error. */
    static DiscArcs angles(int... angles) {
        DiscArcs disc = heights(new int[angles.length]);
        for (int i = 0; i < angles.length; i++) {
            disc.setAngle(i, angles[i], 0);
        }
        return disc;
    }

    /** All that is told of the photos, and the counts. */
    static String tell(DiscArcs disc) {
        StringBuilder words = new StringBuilder();
        for (int what = 0; what <= 5; what++) {
            words.append(disc.count(what)).append(' ');
        }
        for (int photo = 0; photo < disc.count(0); photo++) {
            words.append('|');
            for (int what = 0; what <= 7; what++) {
                words.append(' ').append(disc.photo(photo, what));
            }
        }
        return words.toString();
    }

    /** The answers of best(), without those that are errors. */
    static String best(DiscArcs disc) {
        StringBuilder words = new StringBuilder();
        for (int what = 0; what <= 4; what++) {
            words.append(disc.best(what)).append(' ');
        }
        return words.toString().strip();
    }

    /** The photos of each row of the track, as bits. */
    static String rows(DiscArcs disc) {
        StringBuilder words = new StringBuilder();
        for (int row = 0; row < disc.count(3); row++) {
            words.append(Integer.toBinaryString(disc.track(row, 2))).append(' ');
        }
        return words.toString().strip();
    }

    /** The three photos of the arc of a row. */
    static String rowArc(DiscArcs disc, int row) {
        return disc.track(row, 3) + " " + disc.track(row, 4) + " " + disc.track(row, 5);
    }

    /** The spin, its beginning, how many photos it fits, and these as bits. */
    static String spin(DiscArcs disc) {
        return disc.spin(0) - 200 + " " + disc.spin(1) + " " + disc.spin(2) + " "
                + Integer.toBinaryString(disc.spin(3));
    }
}
