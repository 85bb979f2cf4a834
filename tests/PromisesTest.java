/** Each promise of the document by hand: ordinary inputs, edges and wrong inputs. */
public final class PromisesTest {
    /** y = 100 - time * time at the times 0, 2, 4 and 6; x = 5 * time. */
    private static DiscArcs thrown() {
        DiscArcs disc = new DiscArcs();
        disc.addPhoto(0, 0, 100, 0);
        disc.addPhoto(2, 10, 96, 0);
        disc.addPhoto(4, 20, 84, 0);
        disc.addPhoto(6, 30, 64, 0);
        return disc;
    }

    private static void newObject() {
        DiscArcs disc = new DiscArcs();
        for (int what = 0; what < 6; what++) {
            Check.due("count(" + what + ")", disc.count(what), 0);
        }
        Check.due("undo", disc.undo(), Check.NONE);
        Check.due("restore", disc.restore(), Check.NONE);
        Check.due("photo(0, 0)", disc.photo(0, 0), Check.UNKNOWN);
        Check.due("best(0)", disc.best(0), Check.NOT_POSSIBLE);
        Check.due("lands", disc.lands(), Check.NOT_POSSIBLE);
        Check.due("track(0, 0)", disc.track(0, 0), Check.NONE);
        Check.due("spin(0)", disc.spin(0), Check.NOT_POSSIBLE);
        Check.due("fits(0, 0)", disc.fits(0, 0), 0);
        Check.due("readPhoto", disc.readPhoto(), -100);
    }

    private static void addPhoto() {
        DiscArcs disc = new DiscArcs();
        Check.due("at 50", disc.addPhoto(50, 1, 2, 3), 0);
        Check.due("at 99", disc.addPhoto(99, 400, 400, 40), 1);
        Check.due("at 0", disc.addPhoto(0, -400, -400, 0), 0);
        Check.due("at 49", disc.addPhoto(49, 7, 8, 9), 1);
        int[] times = {0, 49, 50, 99};
        int[] xs = {600, 1007, 1001, 1400};
        int[] ys = {600, 1008, 1002, 1400};
        int[] errors = {0, 9, 3, 40};
        for (int i = 0; i < 4; i++) {
            Check.due("time of " + i, disc.photo(i, 0), times[i]);
            Check.due("x of " + i, disc.photo(i, 1), xs[i]);
            Check.due("y of " + i, disc.photo(i, 2), ys[i]);
            Check.due("error of " + i, disc.photo(i, 3), errors[i]);
            Check.due("angle of " + i, disc.photo(i, 4), Check.NONE);
            Check.due("angle's error of " + i, disc.photo(i, 5), Check.NONE);
            Check.due("aside of " + i, disc.photo(i, 6), 0);
        }
        Check.due("states", disc.count(4), 4);
        int[][] bad = {{-1, 0, 0, 0}, {100, 0, 0, 0}, {5, -401, 0, 0}, {5, 401, 0, 0}, {5, 0, -401, 0},
            {5, 0, 401, 0}, {5, 0, 0, -1}, {5, 0, 0, 41}, {Check.LEAST, 0, 0, 0}, {5, Check.MOST, 0, 0},
            {5, 0, Check.LEAST, 0},
            {5, 0, 0, Check.MOST}, {50, 401, 0, 0}};
        for (int[] b : bad) {
            Check.due("out of range", disc.addPhoto(b[0], b[1], b[2], b[3]), Check.BAD_VALUE);
        }
        Check.due("the same time", disc.addPhoto(50, 9, 9, 9), Check.NOT_POSSIBLE);
        Check.due("the first time again", disc.addPhoto(0, 9, 9, 9), Check.NOT_POSSIBLE);
        Check.due("the last time again", disc.addPhoto(99, 9, 9, 9), Check.NOT_POSSIBLE);
        Check.due("photos after errors", disc.count(0), 4);
        Check.due("undo", disc.undo(), 3);
        Check.due("photos after undo", disc.count(0), 3);
        Check.due("time after undo", disc.photo(1, 0), 50);
        addPhotoKeepsOthers();
    }

    private static void addPhotoKeepsOthers() {
        DiscArcs disc = Check.full();
        Check.due("an eleventh", disc.addPhoto(5, 0, 0, 0), Check.FULL);
        Check.due("an eleventh of the same time", disc.addPhoto(20, 0, 0, 0), Check.NOT_POSSIBLE);
        Check.due("an eleventh out of range", disc.addPhoto(5, 0, 0, 41), Check.BAD_VALUE);
        Check.due("photos", disc.count(0), 10);
        disc.remove(0);
        disc.setAngle(8, 77, 7);
        disc.setAside(8, true);
        Check.due("ahead of all", disc.addPhoto(1, 3, 3, 3), 0);
        Check.due("the angle moved on", disc.photo(9, 4), 77);
        Check.due("its error moved on", disc.photo(9, 5), 7);
        Check.due("aside moved on", disc.photo(9, 6), 1);
        Check.due("nothing stayed behind", disc.photo(8, 4), Check.NONE);
        Check.due("usable", disc.count(1), 511);
        disc.remove(9);
        Check.due("where one was set aside", disc.addPhoto(99, 0, 0, 0), 9);
        Check.due("a new one is not aside", disc.photo(9, 6), 0);
        Check.due("a new one has no angle", disc.photo(9, 4), Check.NONE);
        DiscArcs small = new DiscArcs();
        Check.due("a photo with an angle", Check.read(small, "98:0,0,0@7,7"), 0);
        Check.due("ahead of it one without", small.addPhoto(97, 0, 0, 0), 0);
        Check.due("it has no angle", small.photo(0, 4), Check.NONE);
        Check.due("nor an angle's error", small.setAngle(0, 360, 0), Check.NONE);
    }

    private static void readPhoto() {
        DiscArcs disc = new DiscArcs();
        Check.due("without an angle", Check.read(disc, "7:-20,3,5"), 0);
        Check.due("the text stays", disc.count(5), 9);
        Check.due("read again", disc.readPhoto(), Check.NOT_POSSIBLE);
        Check.due("with an angle", Check.read(disc, "3:400,-400,40@359,60"), 0);
        Check.due("zeros", Check.read(disc, "0:0,0,0@0,0"), 0);
        int[][] want = {{0, 1000, 1000, 0, 0, 0, 0}, {3, 1400, 600, 40, 359, 60, 0},
            {7, 980, 1003, 5, Check.NONE, Check.NONE, 0}};
        for (int photo = 0; photo < 3; photo++) {
            for (int what = 0; what < 7; what++) {
                Check.due("photo(" + photo + ", " + what + ")", disc.photo(photo, what), want[photo][what]);
            }
        }
        Check.due("states", disc.count(4), 3);
        Check.due("undo", disc.undo(), 2);
        Check.due("photos", disc.count(0), 2);
        Check.due("the text is no state", disc.count(5), 11);
        Check.due("without an angle behind one with", Check.read(disc, "9:1,1,1"), 2);
        Check.due("no angle is left over", disc.photo(2, 4), Check.NONE);
        Check.due("with no error but that of its angle", Check.read(disc, "8:1,1,0@2,3"), 2);
        Check.due("its angle", disc.photo(2, 4), 2);
        Check.due("its angle's error", disc.photo(2, 5), 3);
        Check.due("one without an angle", Check.read(disc, "10:1,1,1"), 4);
        Check.due("no angle's error is left over", disc.setAngle(4, 360, 0), Check.NONE);
        readFaults();
        readOutOfRange();
    }

    private static void readFaults() {
        String[] texts = {"", "5", "12", "123", "5:", "5:1", "5:-", "5:-1,", "5:1,1", "5:1,1,", "5:1,1,1@",
            "5:1,1,1@2", "5:1,1,1@2,"};
        DiscArcs disc = new DiscArcs();
        for (String text : texts) {
            Check.due("too early an end: " + text, Check.read(disc, text), -100 - text.length());
        }
        // Each has its fault where the "!" stands, or where the sign behind it is.
        String[] faults = {"!:1,1,1", "!-1:1,1,1", "!a:1,1,1", "0!0:1,1,1", "1!;1,1,1", "123!4:1,1,1",
            "1:!,1,1", "1:0!0,1,1", "1:-!0,1,1", "1:-!-1,1,1", "1:100!0,1,1", "1:-100!0,1,1", "1:1!:1,1",
            "1:1,!,1", "1:1,-!0,1", "1:1,0!0,1", "1:1,1!:1", "1:1,1,!-1", "1:1,1,0!1", "1:1,1,111!1",
            "1:1,1,1!,", "1:1,1,1! ", "1:1,1,1@!-1,1", "1:1,1,1@0!1,1", "1:1,1,1@359!9,1", "1:1,1,1@1!@",
            "1:1,1,1@1,!-1", "1:1,1,1@1,0!0", "1:1,1,1@1,1!,", "1:1,1,1@1,111!1", "1:1,1,1@1,1! ", "! 1:1,1,1",
            "1! :1,1,1", "1:1,1,1!\u0000", "!\uff11:1,1,1", "1:!+1,1,1"};
        for (String marked : faults) {
            int fault = marked.indexOf('!');
            String text = marked.substring(0, fault) + marked.substring(fault + 1);
            Check.due("fault in " + marked, Check.read(disc, text), -100 - fault);
        }
        Check.due("no photo", disc.count(0), 0);
        Check.due("no state", disc.count(4), 0);
        StringBuilder longest = new StringBuilder("1:1,1,1@1,1");
        while (longest.length() < 60) {
            longest.append('x');
        }
        Check.due("a fault ahead of much", Check.read(disc, longest.toString()), -111);
        Check.due("a fault ahead of another photo", Check.read(disc, "1:1,1,1@1,1".repeat(6).substring(0, 60)), -112);
        Check.due("a fault ahead of numbers out of range", Check.read(disc, "999:999,999,999@"), -116);
    }

    private static void readOutOfRange() {
        DiscArcs disc = new DiscArcs();
        String[] bad = {"100:0,0,0", "999:0,0,0", "1:401,0,0", "1:-401,0,0", "1:0,401,0", "1:0,-401,0", "1:0,0,41",
            "1:0,0,999", "1:0,0,0@360,0", "1:0,0,0@361,0", "1:0,0,0@360,1", "1:0,0,0@0,61", "1:0,0,0@999,999"};
        for (String text : bad) {
            Check.due("out of range: " + text, Check.read(disc, text), Check.BAD_VALUE);
        }
        Check.due("no photo", disc.count(0), 0);
        Check.due("at the least", Check.read(disc, "0:-400,-400,0@0,0"), 0);
        Check.due("at the most", Check.read(disc, "99:400,400,40@359,60"), 1);
        Check.due("BAD_VALUE ahead of NOT_POSSIBLE", Check.read(disc, "99:0,0,41"), Check.BAD_VALUE);
        disc = Check.full();
        Check.due("NOT_POSSIBLE ahead of FULL", Check.read(disc, "90:0,0,0"), Check.NOT_POSSIBLE);
        Check.due("FULL", Check.read(disc, "91:0,0,0"), Check.FULL);
        Check.due("BAD_VALUE ahead of FULL", Check.read(disc, "100:0,0,0"), Check.BAD_VALUE);
        Check.due("a fault ahead of FULL", Check.read(disc, "91:0,0,"), -107);
    }

    private static void setAngle() {
        DiscArcs disc = new DiscArcs();
        disc.addPhoto(1, 0, 0, 0);
        disc.addPhoto(2, 0, 0, 0);
        Check.due("the first angle", disc.setAngle(0, 0, 0), 360);
        Check.due("angle", disc.photo(0, 4), 0);
        Check.due("error", disc.photo(0, 5), 0);
        Check.due("the same", disc.setAngle(0, 0, 0), Check.NONE);
        Check.due("another error alone", disc.setAngle(0, 0, 60), 0);
        Check.due("another angle alone", disc.setAngle(0, 359, 60), 0);
        Check.due("states", disc.count(4), 4);
        Check.due("the other one has none", disc.photo(1, 4), Check.NONE);
        Check.due("none in place of none", disc.setAngle(1, 360, 0), Check.NONE);
        Check.due("none", disc.setAngle(0, 360, 0), 359);
        Check.due("no angle", disc.photo(0, 4), Check.NONE);
        Check.due("no error", disc.photo(0, 5), Check.NONE);
        Check.due("undo", disc.undo(), 3);
        Check.due("angle after undo", disc.photo(0, 4), 359);
        Check.due("error after undo", disc.photo(0, 5), 60);
        Check.due("photo -1", disc.setAngle(-1, 0, 0), Check.UNKNOWN);
        Check.due("photo 2", disc.setAngle(2, 0, 0), Check.UNKNOWN);
        Check.due("UNKNOWN ahead of BAD_VALUE", disc.setAngle(2, -1, 0), Check.UNKNOWN);
        int[][] bad = {{-1, 0}, {361, 0}, {0, -1}, {0, 61}, {360, 1}, {360, 61}, {Check.LEAST, 0}, {0, Check.MOST}};
        for (int[] b : bad) {
            Check.due("setAngle(0, " + b[0] + ", " + b[1] + ")", disc.setAngle(0, b[0], b[1]), Check.BAD_VALUE);
        }
        Check.due("states after errors", disc.count(4), 3);
        disc.setAside(1, true);
        Check.due("one that is aside", disc.setAngle(1, 5, 5), 360);
    }

    private static void move() {
        DiscArcs disc = thrown();
        Check.due("there already", disc.move(3, 30, 64), Check.NONE);
        Check.due("off in x", disc.move(3, 31, 64), 1);
        Check.due("x", disc.photo(3, 1), 1031);
        Check.due("states", disc.count(4), 4);
        Check.due("back", disc.move(3, 30, 64), 0);
        Check.due("off in y", disc.move(3, 30, 63), 1);
        Check.due("y", disc.photo(3, 2), 1063);
        Check.due("undo", disc.undo(), 3);
        Check.due("y after undo", disc.photo(3, 2), 1064);
        Check.due("to a corner", disc.move(3, -400, 400), 1);
        Check.due("to another corner", disc.move(3, 400, -400), 1);
        Check.due("photo -1", disc.move(-1, 0, 0), Check.UNKNOWN);
        Check.due("photo 4", disc.move(4, 0, 0), Check.UNKNOWN);
        Check.due("UNKNOWN ahead of BAD_VALUE", disc.move(4, 401, 0), Check.UNKNOWN);
        int[][] bad = {{-401, 0}, {401, 0}, {0, -401}, {0, 401}, {Check.MOST, 0}, {0, Check.LEAST}};
        for (int[] b : bad) {
            Check.due("move(0, " + b[0] + ", " + b[1] + ")", disc.move(0, b[0], b[1]), Check.BAD_VALUE);
        }
        disc.setAside(3, true);
        Check.due("one that is aside", disc.move(3, 1, 1), 0);
        disc.setAside(2, true);
        Check.due("without a best arc", disc.move(0, 1, 1), 0);
    }

    private static void setAside() {
        DiscArcs disc = thrown();
        Check.due("not aside already", disc.setAside(1, false), Check.NONE);
        Check.due("aside", disc.setAside(1, true), 3);
        Check.due("aside already", disc.setAside(1, true), Check.NONE);
        Check.due("told", disc.photo(1, 6), 1);
        Check.due("its number stays", disc.photo(1, 0), 2);
        Check.due("usable", disc.count(1), 13);
        Check.due("photos", disc.count(0), 4);
        Check.due("states", disc.count(4), 4);
        Check.due("another one", disc.setAside(3, true), 2);
        Check.due("back", disc.setAside(1, false), 3);
        Check.due("told again", disc.photo(1, 6), 0);
        Check.due("undo", disc.undo(), 3);
        Check.due("aside after undo", disc.photo(1, 6), 1);
        Check.due("photo -1", disc.setAside(-1, true), Check.UNKNOWN);
        Check.due("photo 4", disc.setAside(4, false), Check.UNKNOWN);
        Check.due("photo of the most", disc.setAside(Check.MOST, true), Check.UNKNOWN);
    }

    private static void dropMissed() {
        DiscArcs disc = thrown();
        Check.due("none missed", disc.dropMissed(), Check.NONE);
        disc.addPhoto(1, 0, 0, 0);
        disc.addPhoto(5, 0, 0, 0);
        // The arc through the four hits them; the two at the times 1 and 5 are off.
        Check.due("two missed", disc.dropMissed(), 2);
        Check.due("usable", disc.count(1), 0b101101);
        Check.due("photos", disc.count(0), 6);
        Check.due("states", disc.count(4), 4);
        Check.due("again", disc.dropMissed(), Check.NONE);
        Check.due("undo", disc.undo(), 3);
        Check.due("usable after undo", disc.count(1), 63);
        disc.move(0, 0, 0);
        disc.move(3, 0, 0);
        disc.move(4, 9, 9);
        disc.setAside(1, true);
        // Each arc through three of the five misses two of them: the first arc wins.
        Check.due("best of those", disc.best(4), 0b110000);
        disc.move(3, 20, 84);
        disc.move(4, 25, 75);
        Check.due("the first is missed", disc.dropMissed(), 1);
        Check.due("it is aside", disc.photo(0, 6), 1);
        Check.due("usable without it", disc.count(1), 0b111100);
        disc = thrown();
        disc.setAside(0, true);
        disc.setAside(1, true);
        Check.due("no best arc", disc.dropMissed(), Check.NOT_POSSIBLE);
        Check.due("what is aside stays so", disc.count(1), 12);
    }

    private static void remove() {
        DiscArcs disc = Check.full();
        disc.setAngle(5, 50, 5);
        disc.setAside(6, true);
        Check.due("the first", disc.remove(0), 9);
        Check.due("times move up", disc.photo(0, 0), 10);
        Check.due("the angle moves up", disc.photo(4, 4), 50);
        Check.due("its error moves up", disc.photo(4, 5), 5);
        Check.due("aside moves up", disc.photo(5, 6), 1);
        Check.due("not behind it", disc.photo(6, 6), 0);
        Check.due("the last", disc.remove(8), 8);
        Check.due("gone", disc.photo(8, 0), Check.UNKNOWN);
        Check.due("one between", disc.remove(3), 7);
        Check.due("the one ahead stays", disc.photo(2, 0), 30);
        Check.due("the one behind moves up", disc.photo(3, 0), 50);
        Check.due("photo -1", disc.remove(-1), Check.UNKNOWN);
        Check.due("photo 7", disc.remove(7), Check.UNKNOWN);
        Check.due("photo of the least", disc.remove(Check.LEAST), Check.UNKNOWN);
        Check.due("undo", disc.undo(), 3);
        Check.due("photos after undo", disc.count(0), 8);
        Check.due("time after undo", disc.photo(3, 0), 40);
        for (int left = 7; left >= 0; left--) {
            Check.due("all of them", disc.remove(0), left);
        }
        Check.due("none left", disc.remove(0), Check.UNKNOWN);
        Check.due("its time is free", disc.addPhoto(30, 0, 0, 0), 0);
    }

    private static void type() {
        DiscArcs disc = new DiscArcs();
        char[] any = {'7', ':', ' ', (char) 0, (char) 255, (char) 256, (char) 0xffff, (char) 0xd800};
        for (int i = 0; i < 60; i++) {
            Check.due("character " + i, disc.type(any[i % any.length]), i + 1);
        }
        Check.due("one more", disc.type('1'), Check.FULL);
        Check.due("length", disc.count(5), 60);
        Check.due("no act", disc.count(4), 0);
        Check.due("fault", disc.readPhoto(), -102);
        disc.clearText();
        Check.due("from the beginning", disc.type('1'), 1);
        Check.due("not the old text", disc.readPhoto(), -101);
    }

    private static void clearText() {
        DiscArcs disc = new DiscArcs();
        Check.due("an empty one", disc.clearText(), 0);
        Check.write(disc, "1:2,3,4");
        Check.due("a text", disc.clearText(), 7);
        Check.due("length", disc.count(5), 0);
        Check.due("again", disc.clearText(), 0);
        Check.due("no act", disc.count(4), 0);
        Check.due("nothing to read", disc.readPhoto(), -100);
    }

    private static void undo() {
        DiscArcs disc = new DiscArcs();
        Check.due("an empty history", disc.undo(), Check.NONE);
        for (int i = 0; i < 6; i++) {
            disc.addPhoto(i, 0, 0, 0);
            Check.due("states", disc.count(4), Math.min(4, i + 1));
        }
        for (int left = 3; left >= 0; left--) {
            Check.due("undo", disc.undo(), left);
            Check.due("photos", disc.count(0), left + 2);
        }
        Check.due("no more", disc.undo(), Check.NONE);
        Check.due("the oldest ones were dropped", disc.count(0), 2);
        undoBringsBack();
    }

    private static void undoBringsBack() {
        DiscArcs disc = thrown();
        disc.setAngle(0, 90, 9);
        disc.setAside(1, true);
        disc.move(2, 5, 6);
        disc.remove(3);
        Check.write(disc, "abc");
        Check.due("remove", disc.undo(), 3);
        Check.due("photos", disc.count(0), 4);
        Check.due("its place", disc.photo(3, 1), 1030);
        Check.due("move", disc.undo(), 2);
        Check.due("the place", disc.photo(2, 2), 1084);
        Check.due("setAside", disc.undo(), 1);
        Check.due("not aside", disc.photo(1, 6), 0);
        Check.due("setAngle", disc.undo(), 0);
        Check.due("no angle", disc.photo(0, 4), Check.NONE);
        Check.due("the text stays", disc.count(5), 3);
        disc.addPhoto(8, 0, 0, 0);
        disc.addPhoto(8, 0, 0, 0);
        disc.addPhoto(9, 0, 0, 99);
        disc.setAside(0, false);
        disc.remove(5);
        Check.due("what returns an error or NONE is no act", disc.count(4), 1);
        Check.due("the act", disc.undo(), 0);
        Check.due("undo is no act", disc.undo(), Check.NONE);
    }

    private static void keep() {
        DiscArcs disc = thrown();
        Check.due("four", disc.keep(), 4);
        Check.due("no act", disc.count(4), 4);
        disc.remove(0);
        Check.due("three in their place", disc.keep(), 3);
        disc.move(0, 1, 1);
        disc.restore();
        Check.due("the later one counts", disc.count(0), 3);
        Check.due("apart from the state", disc.photo(0, 1), 1010);
        Check.due("undo", disc.undo(), 3);
        Check.due("undo again", disc.undo(), 2);
        Check.due("and again", disc.undo(), 1);
        Check.due("the snapshot is no state", disc.restore(), 3);
        DiscArcs empty = new DiscArcs();
        Check.due("an empty state", empty.keep(), 0);
        empty.addPhoto(1, 1, 1, 1);
        Check.due("is a snapshot as well", empty.restore(), 0);
        Check.due("and restored", empty.count(0), 0);
    }

    private static void restore() {
        DiscArcs disc = thrown();
        Check.due("no snapshot", disc.restore(), Check.NONE);
        disc.setAngle(1, 30, 3);
        disc.setAside(2, true);
        disc.keep();
        disc.setAngle(1, 40, 4);
        disc.setAside(2, false);
        disc.remove(3);
        Check.write(disc, "abcd");
        Check.due("restore", disc.restore(), 4);
        Check.due("photos", disc.count(0), 4);
        Check.due("angle", disc.photo(1, 4), 30);
        Check.due("angle's error", disc.photo(1, 5), 3);
        Check.due("aside", disc.photo(2, 6), 1);
        Check.due("place", disc.photo(3, 1), 1030);
        Check.due("the text stays", disc.count(5), 4);
        Check.due("the history stays", disc.count(4), 4);
        disc.remove(0);
        Check.due("the snapshot stays", disc.restore(), 4);
        Check.due("the same state again is an act", disc.restore(), 4);
        Check.due("undo", disc.undo(), 3);
        Check.due("back at the snapshot's state", disc.count(0), 4);
        Check.due("undo", disc.undo(), 2);
        Check.due("ahead of the restore", disc.count(0), 3);
    }

    private static void photo() {
        DiscArcs disc = new DiscArcs();
        disc.addPhoto(11, -400, 400, 12);
        disc.addPhoto(22, 13, -14, 15);
        disc.setAngle(0, 100, 16);
        disc.setAngle(1, 300, 17);
        int[][] want = {{11, 600, 1400, 12, 100, 16, 0, 1}, {22, 1013, 986, 15, 300, 17, 0, 1}};
        for (int photo = 0; photo < 2; photo++) {
            for (int what = 0; what < 8; what++) {
                Check.due("photo(" + photo + ", " + what + ")", disc.photo(photo, what), want[photo][what]);
            }
        }
        Check.due("what -1", disc.photo(0, -1), Check.BAD_VALUE);
        Check.due("what 8", disc.photo(0, 8), Check.BAD_VALUE);
        Check.due("what of the most", disc.photo(0, Check.MOST), Check.BAD_VALUE);
        Check.due("photo -1", disc.photo(-1, 0), Check.UNKNOWN);
        Check.due("photo 2", disc.photo(2, 0), Check.UNKNOWN);
        Check.due("UNKNOWN ahead of BAD_VALUE", disc.photo(2, 8), Check.UNKNOWN);
        disc.setAside(0, true);
        Check.due("the angle of one aside", disc.photo(0, 4), 100);
        Check.due("the fit of one aside", disc.photo(0, 7), Check.NONE);
        Check.due("aside", disc.photo(0, 6), 1);
        Check.due("the other one fits still", disc.photo(1, 7), 1);
        disc.addPhoto(23, 0, 0, 0);
        Check.due("the fit without an angle", disc.photo(2, 7), Check.NONE);
        photoThatDoesNotFit();
    }

    private static void photoThatDoesNotFit() {
        DiscArcs disc = Check.heights(0, 0, 0);
        disc.setAngle(0, 10, 0);
        disc.setAngle(1, 50, 0);
        disc.setAngle(2, 10, 0);
        Check.due("fits", disc.photo(0, 7), 1);
        Check.due("does not fit", disc.photo(1, 7), 0);
        Check.due("fits too", disc.photo(2, 7), 1);
    }

    private static void arc() {
        DiscArcs disc = thrown();
        Check.due("at a photo", disc.arc(0, 1, 2, 2, 1, 0), Check.SHIFT + 96);
        Check.due("x between", disc.arc(0, 1, 2, 3, 0, 0), Check.SHIFT + 15);
        Check.due("y between", disc.arc(0, 1, 2, 3, 1, 0), Check.SHIFT + 91);
        Check.due("y far on", disc.arc(0, 1, 2, 99, 1, 0), Check.SHIFT + 100 - 9801);
        Check.due("lower", disc.arc(0, 1, 2, 99, 1, 1), 1);
        int[][] orders = {{0, 1, 3}, {0, 3, 1}, {1, 0, 3}, {1, 3, 0}, {3, 0, 1}, {3, 1, 0}};
        disc.move(0, 1, 2);
        // x = (1 * 3 * -1 * 4 + 10 * 5 * -1 * -6 + 30 * 5 * 3 * 2) / (2 * 6 * 4) at the time 5.
        for (int[] o : orders) {
            Check.due("upper in any order", disc.arc(o[0], o[1], o[2], 5, 0, 0), Check.SHIFT + 99);
            Check.due("lower in any order", disc.arc(o[0], o[1], o[2], 5, 0, 1), 4);
        }
        DiscArcs low = new DiscArcs();
        low.addPhoto(0, 0, 0, 0);
        low.addPhoto(1, 0, -1, 0);
        low.addPhoto(3, 0, 0, 0);
        Check.due("0 is 0", low.arc(0, 1, 2, 50, 0, 0), Check.SHIFT);
        Check.due("0 over 1", low.arc(0, 1, 2, 50, 0, 1), 1);
        // y = u * (u - 3) / 2.
        Check.due("below 0", low.arc(0, 1, 2, 2, 1, 0), Check.SHIFT - 1);
        Check.due("above 0", low.arc(0, 1, 2, 4, 1, 0), Check.SHIFT + 2);
        arcErrors(disc);
        arcAtLargest();
    }

    private static void arcErrors(DiscArcs disc) {
        Check.due("one unknown", disc.arc(-1, 1, 2, 0, 0, 0), Check.UNKNOWN);
        Check.due("two unknown", disc.arc(0, 4, 2, 0, 0, 0), Check.UNKNOWN);
        Check.due("three unknown", disc.arc(0, 1, Check.MOST, 0, 0, 0), Check.UNKNOWN);
        Check.due("UNKNOWN ahead of BAD_VALUE", disc.arc(0, 0, 4, -1, 0, 0), Check.UNKNOWN);
        Check.due("one is two", disc.arc(1, 1, 2, 0, 0, 0), Check.BAD_VALUE);
        Check.due("one is three", disc.arc(1, 2, 1, 0, 0, 0), Check.BAD_VALUE);
        Check.due("two is three", disc.arc(2, 1, 1, 0, 0, 0), Check.BAD_VALUE);
        Check.due("time -1", disc.arc(0, 1, 2, -1, 0, 0), Check.BAD_VALUE);
        Check.due("time 100", disc.arc(0, 1, 2, 100, 0, 0), Check.BAD_VALUE);
        Check.due("what -1", disc.arc(0, 1, 2, 0, -1, 0), Check.BAD_VALUE);
        Check.due("what 2", disc.arc(0, 1, 2, 0, 2, 0), Check.BAD_VALUE);
        Check.due("part -1", disc.arc(0, 1, 2, 0, 0, -1), Check.BAD_VALUE);
        Check.due("part 2", disc.arc(0, 1, 2, 0, 0, 2), Check.BAD_VALUE);
        disc.setAside(1, true);
        Check.due("two aside", disc.arc(0, 1, 2, 0, 0, 0), Check.NOT_POSSIBLE);
        Check.due("one aside", disc.arc(1, 0, 2, 0, 0, 0), Check.NOT_POSSIBLE);
        Check.due("three aside", disc.arc(0, 2, 1, 0, 0, 0), Check.NOT_POSSIBLE);
        Check.due("BAD_VALUE ahead of NOT_POSSIBLE", disc.arc(0, 1, 2, 100, 0, 0), Check.BAD_VALUE);
        Check.due("the others", disc.arc(0, 2, 3, 4, 1, 0), Check.SHIFT + 84);
    }

    private static void arcAtLargest() {
        DiscArcs disc = Check.heights(400, -400, 400);
        // 400 * 98 * 97 + 800 * 99 * 97 + 200 * 99 * 98 * 2 over 2, by the formula at the time 99.
        Check.due("the greatest upper", disc.arc(0, 1, 2, 99, 1, 0),
                Check.SHIFT + (400L * 98 * 97 + 400L * 99 * 97 * 2 + 400L * 99 * 98) / 2);
        DiscArcs wide = new DiscArcs();
        wide.addPhoto(0, 400, -400, 0);
        wide.addPhoto(49, 399, -399, 0);
        wide.addPhoto(99, 400, -400, 0);
        // x = 400 + u * (u - 99) / 2450; at 1: 400 - 98 / 2450 = 400 - 1 / 25.
        Check.due("upper in lowest terms", wide.arc(0, 1, 2, 1, 0, 0), Check.SHIFT + 9999);
        Check.due("lower in lowest terms", wide.arc(0, 1, 2, 1, 0, 1), 25);
        Check.due("upper below 0", wide.arc(0, 1, 2, 1, 1, 0), Check.SHIFT - 9999);
        Check.due("its lower is above 0", wide.arc(0, 1, 2, 1, 1, 1), 25);
        // At 2: 400 - 194 / 2450 = 400 - 97 / 1225.
        Check.due("a large lower", wide.arc(0, 1, 2, 2, 0, 1), 1225);
    }

    private static void hits() {
        DiscArcs disc = thrown();
        Check.due("all", disc.hits(0, 1, 2), 15);
        Check.due("in any order", disc.hits(3, 0, 2), 15);
        disc.move(3, 33, 64);
        Check.due("not in x", disc.hits(0, 1, 2), 7);
        disc.addPhoto(8, 40, 31, 5);
        Check.due("as far as its error", disc.hits(0, 1, 2), 23);
        disc.move(4, 40, 30);
        Check.due("farther in y", disc.hits(0, 1, 2), 7);
        disc.move(4, 45, 41);
        Check.due("as far in both", disc.hits(0, 1, 2), 23);
        disc.move(4, 34, 36);
        Check.due("farther in x below", disc.hits(0, 1, 2), 7);
        Check.due("its own three", disc.hits(2, 3, 4) & 28, 28);
        disc.setAside(1, true);
        Check.due("not those aside", disc.hits(0, 2, 4) & 2, 0);
        Check.due("one aside", disc.hits(1, 2, 3), Check.NOT_POSSIBLE);
        Check.due("three aside", disc.hits(2, 3, 1), Check.NOT_POSSIBLE);
        Check.due("BAD_VALUE ahead of NOT_POSSIBLE", disc.hits(1, 1, 2), Check.BAD_VALUE);
        Check.due("one is three", disc.hits(0, 2, 0), Check.BAD_VALUE);
        Check.due("two is three", disc.hits(0, 2, 2), Check.BAD_VALUE);
        Check.due("UNKNOWN ahead of BAD_VALUE", disc.hits(0, 0, 5), Check.UNKNOWN);
        Check.due("one unknown", disc.hits(-1, 2, 3), Check.UNKNOWN);
        Check.due("two unknown", disc.hits(0, Check.LEAST, 3), Check.UNKNOWN);
        hitsExactly();
    }

    /** A place that is off by a fraction is missed. */
    private static void hitsExactly() {
        DiscArcs disc = new DiscArcs();
        disc.addPhoto(0, 0, 0, 0);
        disc.addPhoto(3, 0, 1, 0);
        disc.addPhoto(6, 0, 0, 0);
        disc.addPhoto(2, 0, 1, 0);
        // y = u * (6 - u) / 9 is 8 / 9 at the time 2: it is not 1.
        Check.due("not rounded", disc.hits(0, 2, 3), 13);
        disc.remove(1);
        disc.addPhoto(2, 0, 1, 1);
        Check.due("within an error of 1", disc.hits(0, 2, 3), 15);
        disc.move(1, 0, 2);
        Check.due("10 / 9 away", disc.hits(0, 2, 3), 13);
    }

    private static void best() {
        DiscArcs disc = thrown();
        int[] want = {0, 1, 2, 0, 0};
        for (int what = 0; what < 5; what++) {
            Check.due("best(" + what + ")", disc.best(what), want[what]);
        }
        disc.addPhoto(1, 400, 400, 0);
        int[] then = {0, 2, 3, 1, 2};
        for (int what = 0; what < 5; what++) {
            Check.due("best(" + what + ") with one off", disc.best(what), then[what]);
        }
        Check.due("what -1", disc.best(-1), Check.BAD_VALUE);
        Check.due("what 5", disc.best(5), Check.BAD_VALUE);
        disc.setAside(0, true);
        // Each arc through three of the four misses the fourth.
        int[] without = {1, 2, 3, 1, 16};
        for (int what = 0; what < 5; what++) {
            Check.due("best(" + what + ") without the first", disc.best(what), without[what]);
        }
        disc.setAside(1, true);
        Check.due("three usable", disc.best(3), 0);
        disc.setAside(2, true);
        Check.due("two usable", disc.best(0), Check.NOT_POSSIBLE);
        Check.due("two usable, missed", disc.best(4), Check.NOT_POSSIBLE);
        Check.due("BAD_VALUE ahead of NOT_POSSIBLE", disc.best(5), Check.BAD_VALUE);
        bestOfSeveral();
    }

    private static void bestOfSeveral() {
        // No arc through three hits the fourth: the first one wins.
        DiscArcs disc = Check.heights(0, 0, 0, 9);
        Check.due("second of several", disc.best(1), 1);
        Check.due("third of several", disc.best(2), 2);
        Check.due("missed of several", disc.best(4), 8);
        // Off is the photo 2: only arcs without it miss one alone.
        disc = Check.heights(0, 0, 9, 0, 0);
        Check.due("third around one off", disc.best(2), 3);
        Check.due("missed around one off", disc.best(4), 4);
    }

    private static void bestAt() {
        DiscArcs disc = thrown();
        disc.addPhoto(1, 400, 400, 0);
        Check.due("x", disc.bestAt(9, 0, 0), Check.SHIFT + 45);
        Check.due("y", disc.bestAt(11, 1, 0), Check.SHIFT - 21);
        Check.due("lower", disc.bestAt(11, 1, 1), 1);
        Check.due("time 0", disc.bestAt(0, 1, 0), Check.SHIFT + 100);
        Check.due("time 99", disc.bestAt(99, 0, 0), Check.SHIFT + 495);
        Check.due("time -1", disc.bestAt(-1, 0, 0), Check.BAD_VALUE);
        Check.due("time 100", disc.bestAt(100, 0, 0), Check.BAD_VALUE);
        Check.due("what -1", disc.bestAt(0, -1, 0), Check.BAD_VALUE);
        Check.due("what 2", disc.bestAt(0, 2, 0), Check.BAD_VALUE);
        Check.due("part -1", disc.bestAt(0, 0, -1), Check.BAD_VALUE);
        Check.due("part 2", disc.bestAt(0, 0, 2), Check.BAD_VALUE);
        DiscArcs low = new DiscArcs();
        low.addPhoto(0, 0, 0, 0);
        low.addPhoto(2, 1, 0, 0);
        Check.due("no best arc", low.bestAt(0, 0, 0), Check.NOT_POSSIBLE);
        Check.due("BAD_VALUE ahead of NOT_POSSIBLE", low.bestAt(0, 0, 2), Check.BAD_VALUE);
        low.addPhoto(4, 0, 0, 0);
        // x = u * (4 - u) / 4.
        Check.due("a fraction", low.bestAt(1, 0, 0), Check.SHIFT + 3);
        Check.due("its lower", low.bestAt(1, 0, 1), 4);
        Check.due("below 0", low.bestAt(5, 0, 0), Check.SHIFT - 5);
    }

    private static void lands() {
        Check.due("on 0", thrown().lands(), 10);
        Check.due("at once", Check.heights(0, 9, 9).lands(), 0);
        Check.due("below 0", Check.heights(5, 3, -1).lands(), 2);
        // y = 1 + 2 * u: at 0 and later it is above 0.
        Check.due("never", Check.heights(1, 3, 5).lands(), Check.NONE);
        Check.due("a line down to 4", Check.heights(400, 396, 392).lands(), Check.NONE);
        DiscArcs disc = new DiscArcs();
        disc.addPhoto(97, 0, 30, 0);
        disc.addPhoto(98, 0, 20, 0);
        Check.due("two photos", disc.lands(), Check.NOT_POSSIBLE);
        disc.addPhoto(96, 0, 40, 0);
        Check.due("10 at 99", disc.lands(), Check.NONE);
        disc.move(0, 0, 39);
        // Differences -9, -10, so -11: 9 at 99.
        Check.due("9 at 99", disc.lands(), Check.NONE);
        disc.move(2, 0, 15);
        // Differences -9, -15, so -21.
        Check.due("-6 at 99", disc.lands(), 99);
        // y = u - 5 is below 0 ahead of its first photo only.
        DiscArcs up = new DiscArcs();
        up.addPhoto(6, 0, 1, 0);
        up.addPhoto(7, 0, 2, 0);
        up.addPhoto(8, 0, 3, 0);
        Check.due("not ahead of its first photo", up.lands(), Check.NONE);
        up.addPhoto(1, 9, -4, 0);
        Check.due("ahead of its first photo another one", up.best(0), 0);
        Check.due("from that of its first photo", up.lands(), 1);
        // y = 3 - u / 2: 1 / 2 at 5 is above 0.
        DiscArcs half = new DiscArcs();
        half.addPhoto(0, 0, 3, 0);
        half.addPhoto(4, 0, 1, 0);
        half.addPhoto(8, 0, -1, 0);
        Check.due("a fraction above 0 is not on the ground", half.lands(), 6);
        half.move(2, 0, 0);
        // y = 3 - 5 * u / 8 + u * u / 32: at 7 it is 5 / 32.
        Check.due("0 at the last", half.lands(), 8);
    }

    private static void track() {
        DiscArcs disc = thrown();
        disc.addPhoto(8, 0, 0, 0);
        disc.addPhoto(9, 0, 50, 0);
        int[][] want = {{0, 3, 15, 0, 1, 2}, {4, 5, 48, Check.NONE, Check.NONE, Check.NONE}};
        for (int row = 0; row < 2; row++) {
            for (int what = 0; what < 6; what++) {
                Check.due("track(" + row + ", " + what + ")", disc.track(row, what), want[row][what]);
            }
        }
        Check.due("no such row", disc.track(2, 0), Check.NONE);
        Check.due("row of the most", disc.track(Check.MOST, 5), Check.NONE);
        Check.due("row -1", disc.track(-1, 0), Check.BAD_VALUE);
        Check.due("what -1", disc.track(0, -1), Check.BAD_VALUE);
        Check.due("what 6", disc.track(0, 6), Check.BAD_VALUE);
        Check.due("BAD_VALUE ahead of NONE", disc.track(2, 6), Check.BAD_VALUE);
        Check.due("without photos", new DiscArcs().track(0, 0), Check.NONE);
        trackAroundThoseAside();
        trackWithTheLongestFirst();
        trackWithTheFewestRows();
        trackWithAnArcOfLaterPhotos();
    }

    private static void trackAroundThoseAside() {
        DiscArcs disc = Check.heights(300, 100, 96, 200, 84, 64, 300);
        disc.setAside(0, true);
        disc.setAside(3, true);
        disc.setAside(6, true);
        // Usable are 100, 96, 84 and 64 at the times 1, 2, 4 and 5.
        Check.due("first", disc.track(0, 0), 1);
        Check.due("last", disc.track(0, 1), 4);
        Check.due("photos", disc.track(0, 2), 0b10110);
        Check.due("rows", disc.count(3), 2);
        Check.due("the last row", disc.track(1, 2), 0b100000);
        Check.due("its first", disc.track(1, 0), 5);
        Check.due("its last", disc.track(1, 1), 5);
        disc.setAside(1, true);
        disc.setAside(2, true);
        disc.setAside(4, true);
        disc.setAside(5, true);
        Check.due("none usable", disc.count(3), 0);
        Check.due("no row", disc.track(0, 0), Check.NONE);
    }

    private static void trackWithTheLongestFirst() {
        // 0 0 0 0 fit, and 0 9 50 0 do not: of 4 + 3 and 3 + 4 the first row is the longest.
        DiscArcs disc = Check.heights(0, 0, 0, 0, 9, 50, 0);
        Check.due("rows", disc.count(3), 2);
        Check.due("the first row", disc.track(0, 2), 15);
        Check.due("the second row", disc.track(1, 2), 112);
        Check.due("its arc", disc.track(1, 3), 4);
        Check.due("its second", disc.track(1, 4), 5);
        Check.due("its third", disc.track(1, 5), 6);
    }

    private static void trackWithTheFewestRows() {
        DiscArcs disc = Check.heights(0, 0, 0, 1, 4, 9, 16);
        // 0 0 0 | 1 4 9 16 and 0 0 | 0 1 4 9 16 have two rows each.
        Check.due("rows", disc.count(3), 2);
        Check.due("the first row", disc.track(0, 2), 7);
        Check.due("the second row", disc.track(1, 2), 120);
        disc.setAside(0, true);
        // 0 0 1 | 4 9 16, 0 0 | 1 4 9 16 and 0 | 0 1 4 9 16.
        Check.due("the first row then", disc.track(0, 2), 14);
        DiscArcs greedy = Check.heights(0, 0, 0, 0, 7, 0, 31, 3);
        // 0 0 0 0 | 7 0 31 | 3 would be three; none with two: 7 0 31 3 lie on no arc.
        Check.due("rows of the greedy one", greedy.count(3), 3);
        Check.due("its first row", greedy.track(0, 2), 15);
        Check.due("its second row", greedy.track(1, 2), 112);
        Check.due("its third row", greedy.track(2, 2), 128);
        rowsThatMayNotBeTheLongest();
        firstRowThatMayNotBeTheLongest();
    }

    private static void firstRowThatMayNotBeTheLongest() {
        // The first three fit, but the last four do not without the one ahead of them.
        DiscArcs disc = Check.heights(200, -300, 0, 0, 0);
        disc.addPhoto(5, 0, 10, 10);
        disc.addPhoto(6, 0, -10, 10);
        Check.due("the longest from the first on", disc.fitsFrom(0), 3);
        Check.due("the longest from the fourth on", disc.fitsFrom(3), 3);
        Check.due("the fewest rows", disc.count(3), 2);
        Check.due("the short first row", disc.track(0, 2), 3);
        Check.due("the long second row", disc.track(1, 2), 124);
    }

    private static void rowsThatMayNotBeTheLongest() {
        // The first four do not fit: only the arc through the last three hits all five.
        DiscArcs disc = new DiscArcs();
        disc.addPhoto(0, 0, 5, 5);
        disc.addPhoto(1, 0, -9, 9);
        disc.addPhoto(2, 0, 0, 0);
        disc.addPhoto(3, 0, 0, 0);
        disc.addPhoto(4, 0, 0, 0);
        Check.due("one row", disc.count(3), 1);
        Check.due("all photos", disc.track(0, 2), 31);
        Check.due("its arc, first", disc.track(0, 3), 2);
        Check.due("its arc, second", disc.track(0, 4), 3);
        Check.due("its arc, third", disc.track(0, 5), 4);
        Check.due("the longest from 0", disc.fitsFrom(0), 5);
        disc.addPhoto(5, 0, 60, 0);
        disc.addPhoto(6, 0, 0, 0);
        disc.addPhoto(7, 0, 60, 0);
        // 60 0 60 stand alone; ahead of them the row of five.
        Check.due("two rows", disc.count(3), 2);
        Check.due("the second row", disc.track(1, 2), 224);
    }

    private static void trackWithAnArcOfLaterPhotos() {
        DiscArcs disc = Check.heights(0, 0, 0, 0);
        disc.remove(0);
        disc.addPhoto(0, 0, 1, 1);
        Check.due("all", disc.track(0, 2), 15);
        Check.due("the lowest arc that hits all", disc.track(0, 3), 1);
        Check.due("its second", disc.track(0, 4), 2);
        Check.due("its third", disc.track(0, 5), 3);
    }

    private static void fitsFrom() {
        DiscArcs disc = thrown();
        disc.addPhoto(8, 0, 0, 0);
        int[] want = {4, 3, 3, 2, 1};
        for (int photo = 0; photo < 5; photo++) {
            Check.due("from " + photo, disc.fitsFrom(photo), want[photo]);
        }
        Check.due("photo -1", disc.fitsFrom(-1), Check.UNKNOWN);
        Check.due("photo 5", disc.fitsFrom(5), Check.UNKNOWN);
        disc.setAside(3, true);
        Check.due("one aside", disc.fitsFrom(3), Check.NOT_POSSIBLE);
        Check.due("across one aside", disc.fitsFrom(1), 3);
        Check.due("from 0 across one aside", disc.fitsFrom(0), 3);
        disc.setAside(4, true);
        Check.due("the last usable one", disc.fitsFrom(2), 1);
        // The first four do not fit by themselves, but with the fifth one they do.
        DiscArcs late = new DiscArcs();
        late.addPhoto(0, 0, 5, 5);
        late.addPhoto(1, 0, -9, 9);
        late.addPhoto(2, 0, 0, 0);
        late.addPhoto(3, 0, 0, 0);
        late.addPhoto(4, 0, 60, 0);
        Check.due("without an arc", late.fitsFrom(0), 3);
        late.move(4, 0, 0);
        Check.due("also if fewer would not", late.fitsFrom(0), 5);
    }

    private static void spin() {
        DiscArcs disc = Check.heights(0, 0, 0, 0);
        disc.setAngle(1, 100, 0);
        disc.setAngle(2, 130, 0);
        disc.setAngle(3, 160, 0);
        int[] want = {230, 70, 3, 14};
        for (int what = 0; what < 4; what++) {
            Check.due("spin(" + what + ")", disc.spin(what), want[what]);
        }
        Check.due("what -1", disc.spin(-1), Check.BAD_VALUE);
        Check.due("what 4", disc.spin(4), Check.BAD_VALUE);
        disc.setAside(2, true);
        // 100 at 1 and 160 at 3: 30 and -150 fit both.
        Check.due("the least without its sign", disc.spin(0), 230);
        Check.due("those that fit", disc.spin(3), 10);
        disc.setAside(1, true);
        Check.due("one alone", disc.spin(0), 200);
        Check.due("its beginning", disc.spin(1), 160);
        disc.setAngle(3, 20, 30);
        Check.due("the least beginning", disc.spin(1), 0);
        disc.setAngle(3, 40, 30);
        Check.due("the least beginning above 0", disc.spin(1), 10);
        disc.setAngle(3, 340, 30);
        Check.due("across 0", disc.spin(1), 0);
        disc.setAside(3, true);
        Check.due("none usable", disc.spin(0), Check.NOT_POSSIBLE);
        Check.due("BAD_VALUE ahead of NOT_POSSIBLE", disc.spin(4), Check.BAD_VALUE);
        Check.due("no angles", thrown().spin(2), Check.NOT_POSSIBLE);
        spinsOfSeveral();
    }

    private static int spinOf(int... angles) {
        DiscArcs disc = Check.heights(new int[angles.length]);
        for (int i = 0; i < angles.length; i++) {
            disc.setAngle(i, angles[i], 0);
        }
        return disc.spin(0) - 200;
    }

    private static void spinsOfSeveral() {
        Check.due("below 0", spinOf(100, 90), -10);
        Check.due("above 0", spinOf(90, 100), 10);
        Check.due("half a turn", spinOf(90, 270), 180);
        Check.due("the most below 0", spinOf(179, 0), -179);
        Check.due("the most above 0 but one", spinOf(0, 179), 179);
        Check.due("a turn and back", spinOf(0, 90, 180, 270), 90);
        Check.due("one above 0", spinOf(10, 11), 1);
        Check.due("one below 0", spinOf(10, 9), -1);
        // With an odd turn between the times 0 and 2 no spin fits both.
        DiscArcs odd = Check.heights(0, 0, 0);
        odd.setAngle(0, 0, 0);
        odd.setAngle(2, 31, 0);
        Check.due("one of two", odd.spin(2), 1);
        Check.due("the spin 0", odd.spin(0), 200);
        Check.due("from 0", odd.spin(1), 0);
        odd.setAngle(0, 100, 0);
        Check.due("from the least of both", odd.spin(1), 31);
        Check.due("the one that fits", odd.spin(3), 4);
        odd.setAngle(0, 20, 0);
        Check.due("from the least of both then", odd.spin(1), 20);
        Check.due("the other one fits", odd.spin(3), 1);
        // At the times 0 and 2 both 90 and -90 turn by 180: the one above 0 wins.
        DiscArcs disc = Check.heights(0, 0, 0);
        disc.setAngle(0, 30, 0);
        disc.setAngle(2, 210, 0);
        Check.due("the one above 0", disc.spin(0), 290);
        // The most photos count ahead of the least spin.
        disc.addPhoto(3, 0, 0, 0);
        disc.setAngle(1, 30, 0);
        Check.due("two by 0", disc.spin(0), 200);
        Check.due("those by 0", disc.spin(3), 3);
        disc.setAngle(3, 300, 0);
        Check.due("three by 90", disc.spin(0), 290);
        Check.due("those by 90", disc.spin(3), 13);
        Check.due("how many", disc.spin(2), 3);
        Check.due("from", disc.spin(1), 30);
        disc.setAngle(0, 350, 40);
        Check.due("within the error", disc.spin(3), 13);
        Check.due("still by 90", disc.spin(0), 290);
    }

    private static void fits() {
        DiscArcs disc = Check.heights(0, 0, 0, 0);
        disc.setAngle(0, 350, 15);
        disc.setAngle(1, 10, 0);
        disc.setAngle(2, 200, 60);
        Check.due("at the error", disc.fits(5, 5), 2);
        Check.due("beyond the error", disc.fits(4, 6), 1);
        Check.due("at the other end of it", disc.fits(0, 335), 1);
        Check.due("beyond the other end", disc.fits(0, 334), 0);
        Check.due("at the error of 60 below", disc.fits(0, 140), 1);
        Check.due("beyond it below", disc.fits(0, 139), 0);
        Check.due("at the error of 60 above", disc.fits(0, 260), 1);
        Check.due("beyond it above", disc.fits(0, 261), 0);
        Check.due("below 0", disc.fits(-80, 0), 2);
        Check.due("the least spin", disc.fits(-179, 189), 2);
        Check.due("the greatest spin", disc.fits(180, 190), 2);
        Check.due("spin -180", disc.fits(-180, 0), Check.BAD_VALUE);
        Check.due("spin 181", disc.fits(181, 0), Check.BAD_VALUE);
        Check.due("beginning -1", disc.fits(0, -1), Check.BAD_VALUE);
        Check.due("beginning 360", disc.fits(0, 360), Check.BAD_VALUE);
        Check.due("beginning 359", disc.fits(0, 359), 1);
        Check.due("of the most", disc.fits(Check.MOST, 0), Check.BAD_VALUE);
        disc.setAside(0, true);
        Check.due("not one aside", disc.fits(5, 5), 1);
        Check.due("no angles", thrown().fits(0, 0), 0);
        DiscArcs late = new DiscArcs();
        late.addPhoto(99, 0, 0, 0);
        late.setAngle(0, 279, 0);
        // -179 * 99 = -17721, which is 279 modulo 360.
        Check.due("far below 0", late.fits(-179, 0), 1);
    }

    private static void angleAt() {
        DiscArcs disc = Check.heights(0, 0, 0);
        Check.due("no angles", disc.angleAt(0), Check.NOT_POSSIBLE);
        Check.due("BAD_VALUE ahead of NOT_POSSIBLE", disc.angleAt(100), Check.BAD_VALUE);
        disc.setAngle(0, 20, 0);
        Check.due("one alone", disc.angleAt(99), 20);
        disc.setAngle(2, 340, 0);
        // The spin -20 from 20 on.
        Check.due("at 0", disc.angleAt(0), 20);
        Check.due("at 1", disc.angleAt(1), 0);
        Check.due("at 2", disc.angleAt(2), 340);
        Check.due("at 99", disc.angleAt(99), 200);
        Check.due("time -1", disc.angleAt(-1), Check.BAD_VALUE);
        Check.due("time 100", disc.angleAt(100), Check.BAD_VALUE);
        disc.setAside(0, true);
        Check.due("without the first one", disc.angleAt(50), 340);
        disc.setAside(2, true);
        Check.due("none usable", disc.angleAt(50), Check.NOT_POSSIBLE);
    }

    private static void count() {
        DiscArcs disc = thrown();
        disc.setAngle(1, 0, 0);
        disc.setAngle(3, 5, 5);
        disc.setAside(0, true);
        Check.write(disc, "12345");
        int[] want = {4, 14, 10, 1, 4, 5};
        for (int what = 0; what < 6; what++) {
            Check.due("count(" + what + ")", disc.count(what), want[what]);
        }
        disc.setAside(1, true);
        Check.due("usable with an angle", disc.count(2), 8);
        Check.due("what -1", disc.count(-1), Check.BAD_VALUE);
        Check.due("what 6", disc.count(6), Check.BAD_VALUE);
        Check.due("what of the least", disc.count(Check.LEAST), Check.BAD_VALUE);
        Check.due("all ten", Check.full().count(1), 1023);
        Check.due("rows of a line", Check.full().count(3), 1);
    }

    private static void constants() {
        Check.due("UNKNOWN", DiscArcs.UNKNOWN, Check.UNKNOWN);
        Check.due("BAD_VALUE", DiscArcs.BAD_VALUE, Check.BAD_VALUE);
        Check.due("FULL", DiscArcs.FULL, Check.FULL);
        Check.due("NOT_POSSIBLE", DiscArcs.NOT_POSSIBLE, Check.NOT_POSSIBLE);
        Check.due("NONE", DiscArcs.NONE, Check.NONE);
    }

    private static final Runnable[] PROMISES = {PromisesTest::constants, PromisesTest::newObject,
        PromisesTest::addPhoto, PromisesTest::readPhoto, PromisesTest::setAngle, PromisesTest::move,
        PromisesTest::setAside, PromisesTest::dropMissed, PromisesTest::remove, PromisesTest::type,
        PromisesTest::clearText, PromisesTest::undo, PromisesTest::keep, PromisesTest::restore,
        PromisesTest::photo, PromisesTest::arc, PromisesTest::hits, PromisesTest::best, PromisesTest::bestAt,
        PromisesTest::lands, PromisesTest::track, PromisesTest::fitsFrom, PromisesTest::spin,
        PromisesTest::fits, PromisesTest::angleAt, PromisesTest::count};

    public static void main(String[] args) {
        for (int promise = 0; promise < PROMISES.length; promise++) {
            Check.says(promise == 0 ? "The constants" : "Promise " + promise);
            PROMISES[promise].run();
        }
        Check.end();
    }
}
