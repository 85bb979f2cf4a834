/** The boundaries of "Terms", TEXTS: what is allowed at each place, where a fault is, a full text. */
public final class TextsTest {
    private static final String DIGITS = "0123456789";
    private static final String FROM_1 = "123456789";

    private static boolean isPhotoOrBadValue(int answer) {
        return answer >= 0 || answer == Check.BAD_VALUE;
    }

    /** Behind a beginning these characters are allowed, and no others; it may be a whole photo itself. */
    private static void place(String beginning, String allowed, boolean isWhole) {
        int length = beginning.length();
        int early = Check.read(new DiscArcs(), beginning);
        if (isWhole) {
            Check.due("whole: '" + beginning + "'", isPhotoOrBadValue(early) ? 1 : 0, 1);
        } else {
            Check.due("it ends too early: '" + beginning + "'", early, -100 - length);
        }
        for (int c = 0; c < 256; c++) {
            one(beginning, allowed, (char) c);
        }
        char[] others = {256, 0x0130, 0x0660, 0x2212, 0x3000, 0xd800, 0xdfff, 0xff10, 0xff11, 0xff1a, 0xffff};
        for (char c : others) {
            one(beginning, allowed, c);
        }
    }

    private static void one(String beginning, String allowed, char c) {
        DiscArcs disc = new DiscArcs();
        int answer = Check.read(disc, beginning + c);
        String what = "'" + beginning + "' and character " + (int) c;
        if (allowed.indexOf(c) < 0) {
            Check.due(what, answer, -100 - beginning.length());
            Check.due(what + ": photos", disc.count(0), 0);
        } else {
            int end = -100 - beginning.length() - 1;
            Check.due(what + " is allowed (" + answer + ")", isPhotoOrBadValue(answer) || answer == end ? 1 : 0, 1);
        }
    }

    /** All places of a number that begins behind a beginning, with the signs that may follow it. */
    private static void number(String beginning, boolean mayBeMinus, String behind, boolean isWhole) {
        place(beginning, mayBeMinus ? DIGITS + "-" : DIGITS, false);
        place(beginning + "0", behind, isWhole);
        for (char first : FROM_1.toCharArray()) {
            place(beginning + first, DIGITS + behind, isWhole);
        }
        place(beginning + "10", DIGITS + behind, isWhole);
        place(beginning + "99", DIGITS + behind, isWhole);
        place(beginning + "100", behind, isWhole);
        place(beginning + "999", behind, isWhole);
        if (mayBeMinus) {
            place(beginning + "-", FROM_1, false);
            place(beginning + "-1", DIGITS + behind, isWhole);
            place(beginning + "-9", DIGITS + behind, isWhole);
            place(beginning + "-10", DIGITS + behind, isWhole);
            place(beginning + "-99", DIGITS + behind, isWhole);
            place(beginning + "-100", behind, isWhole);
            place(beginning + "-999", behind, isWhole);
        }
    }

    private static void places() {
        Check.says("a time, x, y, an error, and perhaps an angle, an error of the angle; one to three digits, "
                + "without a zero in front unless it is the single digit 0");
        number("", false, ":", false);
        number("7:", true, ",", false);
        number("100:", true, ",", false);
        number("7:-20,", true, ",", false);
        number("7:0,", true, ",", false);
        number("7:-20,3,", false, "@", true);
        number("7:-20,-345,", false, "@", true);
        number("7:-20,3,5@", false, ",", false);
        number("7:-20,3,40@", false, ",", false);
        number("7:-20,3,5@359,", false, "", true);
        number("7:-20,3,5@0,", false, "", true);
        number("123:-123,-123,123@123,", false, "", true);
    }

    private static void faults() {
        Check.says("the index, from 0, of the first character that is not allowed at its place");
        String[] texts = {"!", "01:1,1,1", "00:1,1,1", "1234:1,1,1", "7:-034", "7:-0,1,1", "7:--1,1,1", "7:1,-0,1",
            "7:1,1,-1", "-1:1,1,1", "7:1,1,1@-1,1", "7:1,1,1@1,-1", "7:1000,1,1", "7:-1000,1,1", "7:1,1,1000",
            "7:1,1,1@1000,1", "7:1,1,1@1,1000", "7:1,1,1,", "7:1,1,1@1,1,", "7:1,1,1@1,1@", "7 :1,1,1", " 7:1,1,1",
            "7:1,1,1 ", "7:1,1", "7:1,1@1,1", "7,1,1,1", "7:1:1,1", "7:1,1,@1,1", "7:,1,1", ":1,1,1", "7:1,1,1@,1"};
        int[] faults = {0, 1, 1, 3, 3, 3, 3, 5, 6, 0, 8, 10, 5, 6, 9, 11, 13, 7, 11, 11, 1, 0, 7, 5, 5, 1, 3, 6, 2, 0,
            8};
        for (int i = 0; i < texts.length; i++) {
            DiscArcs disc = new DiscArcs();
            Check.due("'" + texts[i] + "'", Check.read(disc, texts[i]), -100 - faults[i]);
            Check.due("the same again", disc.readPhoto(), -100 - faults[i]);
            Check.due("the text stays", disc.count(5), texts[i].length());
        }
        Check.says("or the length of the text if it ends too early (the empty text does).");
        String whole = "99:-400,-400,40@359,60";
        for (int length = 0; length <= whole.length(); length++) {
            boolean isWhole = length == 14 || length == 15 || length == 21 || length == 22;
            int due = isWhole ? 0 : -100 - length;
            Check.due(length + " of " + whole, Check.read(new DiscArcs(), whole.substring(0, length)), due);
        }
        Check.due("a new object", new DiscArcs().readPhoto(), -100);
        DiscArcs cleared = new DiscArcs();
        Check.write(cleared, whole);
        cleared.clearText();
        Check.due("a text that was emptied", cleared.readPhoto(), -100);
        // What stood behind the end before would go on rightly.
        String longer = "7:1,2,3@4,5";
        for (int length = 1; length < longer.length(); length++) {
            Check.write(cleared, longer);
            int due = length == 7 ? 0 : -100 - length;
            Check.due(length + " of " + longer, Check.read(cleared, longer.substring(0, length)), due);
        }
    }

    private static void ranges() {
        Check.says("BAD_VALUE if any number is out of its range");
        String[] taken = {"0:1,1,1@1,1", "99:1,1,1@1,1", "7:400,1,1@1,1", "7:-400,1,1@1,1", "7:0,1,1@1,1",
            "7:1,400,1@1,1", "7:1,-400,1@1,1", "7:1,0,1@1,1", "7:1,1,0@1,1", "7:1,1,40@1,1", "7:1,1,1@0,1",
            "7:1,1,1@359,1", "7:1,1,1@1,0", "7:1,1,1@1,60", "99:400,400,40", "0:-400,-400,0"};
        for (String text : taken) {
            DiscArcs disc = new DiscArcs();
            Check.due(text, Check.read(disc, text), 0);
            Check.due("states", disc.count(4), 1);
        }
        String[] refused = {"100:1,1,1@1,1", "999:1,1,1@1,1", "7:401,1,1@1,1", "7:-401,1,1@1,1", "7:999,1,1",
            "7:-999,1,1", "7:1,401,1@1,1", "7:1,-401,1@1,1", "7:1,-999,1", "7:1,1,41@1,1", "7:1,1,41", "7:1,1,999",
            "7:1,1,1@360,0", "7:1,1,1@360,1", "7:1,1,1@361,1", "7:1,1,1@999,1", "7:1,1,1@1,61", "7:1,1,1@1,999",
            "100:401,401,41@360,61"};
        for (String text : refused) {
            DiscArcs disc = new DiscArcs();
            Check.due(text, Check.read(disc, text), Check.BAD_VALUE);
            Check.due("photos", disc.count(0), 0);
            Check.due("states", disc.count(4), 0);
        }
    }

    private static void valuesThatAreRead() {
        Check.says("Adds the photo of the text, which stays.");
        int[][] numbers = {{0, 0, 0, 0, 0, 0}, {99, 400, -400, 40, 359, 60}, {9, -9, 9, 9, 9, 9},
            {10, -10, 10, 10, 10, 10}, {1, -1, -100, 1, 100, 1}, {98, 123, 399, 19, 90, 19}};
        for (int[] n : numbers) {
            DiscArcs disc = new DiscArcs();
            String text = n[0] + ":" + n[1] + "," + n[2] + "," + n[3];
            Check.due(text, Check.read(disc, text), 0);
            int[] without = {n[0], 1000 + n[1], 1000 + n[2], n[3], Check.NONE, Check.NONE, 0, Check.NONE};
            tells(disc, without);
            Check.due("nor an error of the angle", disc.setAngle(0, 360, 0), Check.NONE);
            disc.remove(0);
            Check.due("the text stays", disc.count(5), text.length());
            Check.type(disc, "@" + n[4] + "," + n[5]);
            Check.due(text + " with an angle", disc.readPhoto(), 0);
            int[] with = {n[0], 1000 + n[1], 1000 + n[2], n[3], n[4], n[5], 0, 1};
            tells(disc, with);
            Check.due("the same time", disc.readPhoto(), Check.NOT_POSSIBLE);
            disc.undo();
            Check.due("read again", disc.readPhoto(), 0);
            tells(disc, with);
        }
    }

    private static void nothingIsLeftOver() {
        Check.says("and perhaps the angle of a mark on its rim");
        DiscArcs disc = new DiscArcs();
        Check.due("with an angle", Check.read(disc, "10:1,1,1@20,30"), 0);
        Check.due("without one, of a text", Check.read(disc, "11:1,1,1"), 1);
        Check.due("no angle", disc.photo(1, 4), Check.NONE);
        Check.due("nor its error", disc.setAngle(1, 360, 0), Check.NONE);
        Check.due("with an angle again", Check.read(disc, "12:1,1,1@20,30"), 2);
        Check.due("without one, by numbers", disc.addPhoto(13, 1, 1, 1), 3);
        Check.due("no angle", disc.photo(3, 4), Check.NONE);
        Check.due("nor its error", disc.setAngle(3, 360, 0), Check.NONE);
        Check.due("an angle out of range", Check.read(disc, "14:1,1,1@360,61"), Check.BAD_VALUE);
        Check.due("without one, of a text", Check.read(disc, "14:1,1,1"), 4);
        Check.due("no angle", disc.photo(4, 4), Check.NONE);
        Check.due("an error out of range", disc.addPhoto(15, 1, 1, 41), Check.BAD_VALUE);
        Check.due("in range, of a text", Check.read(disc, "15:1,1,1"), 5);
        Check.due("a fault behind an angle", Check.read(disc, "16:1,1,1@99,60!"), -114);
        Check.due("without one, of a text", Check.read(disc, "16:1,1,1"), 6);
        Check.due("no angle", disc.photo(6, 4), Check.NONE);
        Check.due("nor its error", disc.setAngle(6, 360, 0), Check.NONE);
    }

    private static void tells(DiscArcs disc, int[] want) {
        for (int what = 0; what <= 7; what++) {
            Check.due("photo(0, " + what + ")", disc.photo(0, what), want[what]);
        }
    }

    private static void fullText() {
        Check.says("There is a text of at most 60 characters, empty at first.");
        DiscArcs disc = new DiscArcs();
        Check.due("at first", disc.count(5), 0);
        Check.due("emptied at first", disc.clearText(), 0);
        String words = "1:2,3,4@5,6";
        for (int length = 1; length <= 60; length++) {
            char c = length <= words.length() ? words.charAt(length - 1) : 'x';
            Check.due("character " + length, disc.type(c), length);
            Check.due("length", disc.count(5), length);
        }
        for (int more = 0; more < 3; more++) {
            Check.due("one more", disc.type('1'), Check.FULL);
            Check.due("the length stays", disc.count(5), 60);
        }
        Check.due("its fault", disc.readPhoto(), -111);
        Check.due("the length that it had", disc.clearText(), 60);
        Check.due("no length any more", disc.clearText(), 0);
        for (int length = 1; length <= 60; length++) {
            disc.type('9');
        }
        Check.due("full again", disc.type('9'), Check.FULL);
        Check.due("the fourth digit", disc.readPhoto(), -103);
        Check.due("no act among these", disc.count(4), 0);
        Check.due("undo brings no text back", disc.undo(), Check.NONE);
        Check.due("nor takes one away", disc.clearText(), 60);
    }

    private static void anyCharacter() {
        Check.says("character: any character");
        for (int from = 0; from < 65536; from += 60) {
            DiscArcs disc = new DiscArcs();
            for (int i = 0; i < 60 && from + i < 65536; i++) {
                Check.due("character " + (from + i), disc.type((char) (from + i)), i + 1);
            }
        }
    }

    public static void main(String[] args) {
        places();
        faults();
        ranges();
        valuesThatAreRead();
        nothingIsLeftOver();
        fullText();
        anyCharacter();
        Check.end();
    }
}
