/** The boundaries of "Terms", PHOTOS: how many, their numbers, their times, and those set aside. */
public final class PhotosTest {
    private static String times(DiscArcs disc) {
        StringBuilder words = new StringBuilder();
        for (int photo = 0; photo < disc.count(0); photo++) {
            words.append(disc.photo(photo, 0)).append(' ');
        }
        return words.toString().strip();
    }

    private static void atMostTen() {
        Check.says("There are at most 10 photos");
        DiscArcs disc = new DiscArcs();
        for (int i = 0; i < 10; i++) {
            Check.due("photo " + i, disc.addPhoto(i, 0, 0, 0), i);
        }
        Check.due("the eleventh", disc.addPhoto(10, 0, 0, 0), Check.FULL);
        Check.due("the eleventh of a text", Check.read(disc, "10:0,0,0"), Check.FULL);
        Check.due("photos", disc.count(0), 10);
        Check.due("all of them usable", disc.count(1), 1023);
        Check.due("a snapshot of ten", disc.keep(), 10);
        Check.due("one removed", disc.remove(9), 9);
        Check.due("the tenth of a text", Check.read(disc, "10:0,0,0"), 9);
        Check.due("the next", disc.addPhoto(11, 0, 0, 0), Check.FULL);
        disc.setAside(0, true);
        Check.due("one aside counts", disc.addPhoto(11, 0, 0, 0), Check.FULL);
        Check.due("ten restored", disc.restore(), 10);
        Check.due("still full", disc.addPhoto(11, 0, 0, 0), Check.FULL);
        Check.due("undone", disc.undo(), 3);
        disc.remove(5);
        disc.undo();
        Check.due("full again by undo", disc.addPhoto(11, 0, 0, 0), Check.FULL);
        disc.undo();
        disc.undo();
        Check.due("nine again by undo", disc.count(0), 9);
        Check.due("a tenth", disc.addPhoto(11, 0, 0, 0), 9);
        for (int left = 9; left >= 0; left--) {
            Check.due("left", disc.remove(left / 2), left);
        }
        Check.due("none to remove", disc.remove(0), Check.UNKNOWN);
        Check.due("photos", disc.count(0), 0);
    }

    private static void inTheOrderOfTimes() {
        Check.says("numbered from 0 in the order of their times");
        DiscArcs disc = new DiscArcs();
        int[][] added = {{50, 0}, {99, 1}, {0, 0}, {51, 2}, {49, 1}, {98, 4}, {1, 1}};
        for (int[] a : added) {
            Check.due("number of " + a[0], disc.addPhoto(a[0], a[0], 0, 0), a[1]);
        }
        Check.due("times", times(disc), "0 1 49 50 51 98 99");
        Check.due("ahead of a later one", Check.read(disc, "52:52,0,0"), 5);
        Check.due("ahead of all but the first", Check.read(disc, "2:2,0,0"), 2);
        Check.due("times", times(disc), "0 1 2 49 50 51 52 98 99");
        for (int photo = 0; photo < 9; photo++) {
            Check.due("all goes with its time", disc.photo(photo, 1), 1000 + disc.photo(photo, 0));
        }
        Check.says("When a photo is added or removed, the later ones get other numbers.");
        disc.setAngle(4, 50, 5);
        disc.setAside(5, true);
        Check.due("the first one removed", disc.remove(0), 8);
        Check.due("a later angle", disc.photo(3, 4), 50);
        Check.due("a later one aside", disc.photo(4, 6), 1);
        Check.due("one between them", disc.addPhoto(3, 3, 0, 0), 2);
        Check.due("the earlier ones stay", disc.photo(1, 0), 2);
        Check.due("a later angle again", disc.photo(4, 4), 50);
        Check.due("its error", disc.photo(4, 5), 5);
        Check.due("a later one aside again", disc.photo(5, 6), 1);
        Check.due("the one behind it is not", disc.photo(6, 6), 0);
        Check.due("the last one removed", disc.remove(8), 8);
        Check.due("the others stay", times(disc), "1 2 3 49 50 51 52 98");
        Check.due("the angle of 50 stays", disc.photo(4, 4), 50);
        Check.due("where one was a new one", disc.addPhoto(99, 0, 0, 0), 8);
        Check.due("without an angle", disc.photo(8, 4), Check.NONE);
    }

    private static void noTwoOfOneTime() {
        Check.says("no two have the same time");
        DiscArcs disc = new DiscArcs();
        int[] times = {0, 50, 99};
        for (int time : times) {
            disc.addPhoto(time, 0, 0, 0);
        }
        for (int time : times) {
            Check.due("the same time", disc.addPhoto(time, 1, 1, 1), Check.NOT_POSSIBLE);
            Check.due("the same of a text", Check.read(disc, time + ":1,1,1"), Check.NOT_POSSIBLE);
        }
        disc.setAside(1, true);
        Check.due("the time of one aside", disc.addPhoto(50, 1, 1, 1), Check.NOT_POSSIBLE);
        Check.due("just ahead", disc.addPhoto(49, 1, 1, 1), 1);
        Check.due("just behind", disc.addPhoto(51, 1, 1, 1), 3);
        disc.remove(2);
        Check.due("the time of one removed", disc.addPhoto(50, 1, 1, 1), 2);
        disc.undo();
        disc.undo();
        Check.due("the time of one that is back", disc.addPhoto(50, 1, 1, 1), Check.NOT_POSSIBLE);
    }

    private static void valuesThatAreKept() {
        Check.says("the place of the disc, with an error, and perhaps the angle of a mark, with its error");
        int[][] kept = {{0, -400, -400, 0, 0, 0}, {99, 400, 400, 40, 359, 60}, {1, -1, 1, 1, 1, 59},
            {98, 0, 0, 39, 358, 1}, {50, 399, -399, 20, 180, 30}};
        for (int[] k : kept) {
            DiscArcs disc = new DiscArcs();
            disc.addPhoto(k[0], k[1], k[2], k[3]);
            disc.setAngle(0, k[4], k[5]);
            tells(disc, k);
            tells(withText(k[0] + ":" + k[1] + "," + k[2] + "," + k[3] + "@" + k[4] + "," + k[5]), k);
            disc.move(0, -k[1], k[2]);
            Check.due("x moved", disc.photo(0, 1), 1000 - k[1]);
            Check.due("y that stays", disc.photo(0, 2), 1000 + k[2]);
        }
    }

    private static DiscArcs withText(String text) {
        DiscArcs disc = new DiscArcs();
        Check.due(text, Check.read(disc, text), 0);
        return disc;
    }

    private static void tells(DiscArcs disc, int[] k) {
        int[] want = {k[0], 1000 + k[1], 1000 + k[2], k[3], k[4], k[5], 0, 1};
        for (int what = 0; what <= 7; what++) {
            Check.due("photo(0, " + what + ")", disc.photo(0, what), want[what]);
        }
    }

    private static void anglesThatComeAndGo() {
        Check.says("Returns the angle that it had (360 if it had none); NONE if both are so already.");
        DiscArcs disc = Check.heights(0);
        int[][] angles = {{0, 0, 360}, {0, 1, 0}, {359, 1, 0}, {359, 60, 359}, {360, 0, 359}, {359, 0, 360},
            {360, 0, 359}, {0, 60, 360}, {0, 0, 0}, {1, 0, 0}, {1, 1, 1}};
        for (int[] a : angles) {
            Check.due("setAngle(0, " + a[0] + ", " + a[1] + ")", disc.setAngle(0, a[0], a[1]), a[2]);
            Check.due("the same again", disc.setAngle(0, a[0], a[1]), Check.NONE);
            boolean none = a[0] == 360;
            Check.due("angle", disc.photo(0, 4), none ? Check.NONE : a[0]);
            Check.due("its error", disc.photo(0, 5), none ? Check.NONE : a[1]);
            Check.due("whether it fits", disc.photo(0, 7), none ? Check.NONE : 1);
            Check.due("usable with an angle", disc.count(2), none ? 0 : 1);
        }
        Check.says("NONE if it is there already.");
        Check.due("x alone is so", disc.move(0, 0, 1), 0);
        Check.due("both are so", disc.move(0, 0, 1), Check.NONE);
        Check.due("y alone is so", disc.move(0, 1, 1), 0);
        Check.due("both are so", disc.move(0, 1, 1), Check.NONE);
        Check.due("neither is so", disc.move(0, 400, -400), 0);
        Check.due("in a corner", disc.move(0, 400, -400), Check.NONE);
    }

    /** Five on one arc at the times 0 to 4, each with an angle that turns by 10. */
    private static DiscArcs five() {
        DiscArcs disc = Check.heights(100, 99, 96, 91, 84);
        for (int photo = 0; photo < 5; photo++) {
            disc.setAngle(photo, 10 * photo, 0);
        }
        return disc;
    }

    private static void setAside() {
        Check.says("A photo can be set aside (at first it is not): it keeps its number");
        DiscArcs disc = five();
        Check.due("at first", disc.photo(2, 6), 0);
        Check.due("not so already", disc.setAside(2, false), Check.NONE);
        Check.due("usable then", disc.setAside(2, true), 4);
        Check.due("so already", disc.setAside(2, true), Check.NONE);
        int[] want = {2, 1000, 1096, 0, 20, 0, 1, Check.NONE};
        for (int what = 0; what <= 7; what++) {
            Check.due("photo(2, " + what + ")", disc.photo(2, what), want[what]);
        }
        Check.due("the next one's number", disc.photo(3, 0), 3);
        Check.due("photos", disc.count(0), 5);
        Check.due("it is moved", disc.move(2, 1, 1), 0);
        Check.due("it is turned", disc.setAngle(2, 77, 7), 20);
        Check.due("and told so", disc.photo(2, 4), 77);
        Check.due("it is removed", disc.remove(2), 4);
        Check.due("the others are not aside", disc.count(1), 15);
        for (int left = 3; left >= 0; left--) {
            Check.due("usable then", disc.setAside(left, true), left);
        }
        Check.due("none usable", disc.count(1), 0);
        Check.due("one usable", disc.setAside(3, false), 1);
        Check.due("that one", disc.count(1), 8);
    }

    private static void notCounted() {
        Check.says("but is not counted below where photos are called usable");
        DiscArcs disc = five();
        disc.move(4, 300, 300);
        disc.setAngle(4, 300, 0);
        disc.setAngle(3, 200, 0);
        Check.due("the best arc misses it", disc.best(4), 16);
        Check.due("its row", Check.rows(disc), "1111 10000");
        disc.setAside(4, true);
        Check.due("usable", disc.count(1), 15);
        Check.due("usable with an angle", disc.count(2), 15);
        Check.due("none missed", disc.best(3), 0);
        Check.due("none to drop", disc.dropMissed(), Check.NONE);
        Check.due("hits", disc.hits(0, 1, 2), 15);
        Check.due("no arc through it", disc.hits(0, 1, 4), Check.NOT_POSSIBLE);
        Check.due("the row", Check.rows(disc), "1111");
        Check.due("the longest row", disc.fitsFrom(0), 4);
        Check.due("the longest row up to it", disc.fitsFrom(3), 1);
        Check.due("none from it", disc.fitsFrom(4), Check.NOT_POSSIBLE);
        Check.due("how many it fits", disc.fits(0, 300), 0);
        Check.due("how many the others", disc.fits(10, 0), 3);
        disc.setAngle(0, 360, 0);
        disc.setAside(1, true);
        disc.setAside(2, true);
        Check.due("the spin of one", Check.spin(disc), "0 200 1 1000");
        disc.setAside(3, true);
        Check.due("no spin", disc.spin(0), Check.NOT_POSSIBLE);
        Check.due("no angle", disc.angleAt(0), Check.NOT_POSSIBLE);
        Check.due("no best arc", disc.best(0), Check.NOT_POSSIBLE);
        Check.due("no landing", disc.lands(), Check.NOT_POSSIBLE);
        Check.due("one row", Check.rows(disc), "1");
        disc.setAside(0, true);
        Check.due("no row", disc.count(3), 0);
    }

    public static void main(String[] args) {
        atMostTen();
        inTheOrderOfTimes();
        noTwoOfOneTime();
        valuesThatAreKept();
        anglesThatComeAndGo();
        setAside();
        notCounted();
        Check.end();
    }
}
