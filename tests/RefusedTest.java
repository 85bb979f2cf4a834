import java.util.ArrayList;
import java.util.List;

/**
 * "A call that returns an error or NONE changes nothing": neither the photos, nor
 * the text, nor the history, nor the snapshot; and no question changes anything.
 */
public final class RefusedTest {
    private interface Maker {
        DiscArcs make();
    }

    private interface Call {
        long on(DiscArcs disc);
    }

    private static final int UNDOS = 5;

    /** Five photos, of which one is aside; four states, a snapshot and a text of their own. */
    private static DiscArcs rich() {
        DiscArcs disc = new DiscArcs();
        disc.addPhoto(3, 5, 50, 1);
        disc.addPhoto(1, 7, 30, 2);
        disc.keep();
        disc.addPhoto(5, 9, 90, 3);
        disc.addPhoto(7, -400, 400, 40);
        disc.addPhoto(9, 2, -3, 0);
        disc.setAngle(0, 100, 10);
        disc.setAngle(2, 359, 60);
        disc.setAside(1, true);
        Check.write(disc, "7:-20,3,5@1");
        return disc;
    }

    /** Ten photos and a text that tells another one. */
    private static DiscArcs richAndFull() {
        DiscArcs disc = rich();
        for (int time = 20; time < 25; time++) {
            disc.addPhoto(time, time, -time, 1);
        }
        Check.type(disc, "2,9");
        return disc;
    }

    /** Photos and a snapshot, with an empty history. */
    private static DiscArcs withoutHistory() {
        DiscArcs disc = rich();
        for (int i = 0; i < 4; i++) {
            disc.undo();
        }
        return disc;
    }

    private static DiscArcs withoutSnapshot() {
        DiscArcs disc = Check.heights(100, 96, 84, 60);
        Check.write(disc, "7:-20,3,5@1");
        return disc;
    }

    private static DiscArcs withTwoUsable() {
        DiscArcs disc = rich();
        disc.setAside(0, true);
        disc.setAside(4, true);
        return disc;
    }

    private static DiscArcs withNoneMissed() {
        DiscArcs disc = rich();
        disc.setAside(4, true);
        return disc;
    }

    private static DiscArcs withFullText() {
        DiscArcs disc = rich();
        Check.write(disc, "8:1,2,3@4,5" + " ".repeat(49));
        return disc;
    }

    private static DiscArcs withTextOf(DiscArcs disc, String text) {
        Check.write(disc, text);
        return disc;
    }

    /** All that can still be found out, each on an object of its own. */
    private static List<String> allOf(Maker maker, Call call) {
        List<String> all = new ArrayList<>();
        for (int undos = 0; undos <= UNDOS; undos++) {
            DiscArcs disc = after(maker, call);
            StringBuilder words = new StringBuilder("undone " + undos + ": ");
            for (int i = 0; i < undos; i++) {
                words.append(disc.undo()).append(' ');
            }
            all.add(words.append(Check.tell(disc)).toString());
        }
        DiscArcs restored = after(maker, call);
        all.add("restored " + restored.restore() + ": " + Check.tell(restored));
        DiscArcs typed = after(maker, call);
        // Behind the text of rich() this makes a whole photo, behind others it may be a fault.
        typed.remove(3);
        all.add("typed " + typed.type('0') + " " + typed.type(',') + " " + typed.type('7') + " "
                + typed.readPhoto() + ": " + Check.tell(typed));
        DiscArcs asked = after(maker, call);
        all.add("best " + Check.best(asked) + ", rows " + Check.rows(asked));
        return all;
    }

    private static DiscArcs after(Maker maker, Call call) {
        DiscArcs disc = maker.make();
        call.on(disc);
        return disc;
    }

    private static void changesNothing(String what, long answer, Maker maker, Call call) {
        Check.due(what, call.on(maker.make()), answer);
        List<String> got = allOf(maker, call);
        List<String> want = allOf(maker, disc -> 0);
        for (int i = 0; i < want.size(); i++) {
            Check.due("what stands after " + what, got.get(i), want.get(i));
        }
    }

    private static void refusedAdding() {
        Maker rich = RefusedTest::rich;
        Maker full = RefusedTest::richAndFull;
        changesNothing("addPhoto: BAD_VALUE", Check.BAD_VALUE, rich, disc -> disc.addPhoto(2, 1, 1, 41));
        changesNothing("addPhoto: BAD_VALUE of time", Check.BAD_VALUE, rich, disc -> disc.addPhoto(-1, 1, 1, 4));
        changesNothing("addPhoto: NOT_POSSIBLE", Check.NOT_POSSIBLE, rich, disc -> disc.addPhoto(1, 1, 1, 4));
        changesNothing("addPhoto: FULL", Check.FULL, full, disc -> disc.addPhoto(2, 1, 1, 4));
        changesNothing("readPhoto: a fault", -111, rich, DiscArcs::readPhoto);
        changesNothing("readPhoto: BAD_VALUE", Check.BAD_VALUE,
                () -> withTextOf(rich(), "100:1,1,1"), DiscArcs::readPhoto);
        changesNothing("readPhoto: BAD_VALUE of the angle", Check.BAD_VALUE,
                () -> withTextOf(rich(), "8:1,1,1@2,61"), DiscArcs::readPhoto);
        changesNothing("readPhoto: NOT_POSSIBLE", Check.NOT_POSSIBLE,
                () -> withTextOf(rich(), "9:1,1,1@2,3"), DiscArcs::readPhoto);
        changesNothing("readPhoto: FULL", Check.FULL,
                () -> withTextOf(richAndFull(), "8:1,1,1@2,3"), DiscArcs::readPhoto);
    }

    private static void refusedChanges() {
        Maker rich = RefusedTest::rich;
        changesNothing("setAngle: UNKNOWN", Check.UNKNOWN, rich, disc -> disc.setAngle(5, 1, 1));
        changesNothing("setAngle: BAD_VALUE", Check.BAD_VALUE, rich, disc -> disc.setAngle(0, 361, 1));
        changesNothing("setAngle: BAD_VALUE of the error", Check.BAD_VALUE, rich, disc -> disc.setAngle(0, 1, 61));
        changesNothing("setAngle: BAD_VALUE of 360", Check.BAD_VALUE, rich, disc -> disc.setAngle(0, 360, 1));
        changesNothing("setAngle: NONE", Check.NONE, rich, disc -> disc.setAngle(0, 100, 10));
        changesNothing("setAngle: NONE without one", Check.NONE, rich, disc -> disc.setAngle(1, 360, 0));
        changesNothing("move: UNKNOWN", Check.UNKNOWN, rich, disc -> disc.move(-1, 1, 1));
        changesNothing("move: BAD_VALUE of x", Check.BAD_VALUE, rich, disc -> disc.move(0, 401, 1));
        changesNothing("move: BAD_VALUE of y", Check.BAD_VALUE, rich, disc -> disc.move(0, 1, -401));
        changesNothing("move: NONE", Check.NONE, rich, disc -> disc.move(3, -400, 400));
        changesNothing("setAside: UNKNOWN", Check.UNKNOWN, rich, disc -> disc.setAside(5, true));
        changesNothing("setAside: NONE", Check.NONE, rich, disc -> disc.setAside(1, true));
        changesNothing("setAside: NONE where it is not", Check.NONE, rich, disc -> disc.setAside(0, false));
        changesNothing("dropMissed: NOT_POSSIBLE", Check.NOT_POSSIBLE,
                RefusedTest::withTwoUsable, DiscArcs::dropMissed);
        changesNothing("dropMissed: NONE", Check.NONE, RefusedTest::withNoneMissed, DiscArcs::dropMissed);
        changesNothing("remove: UNKNOWN", Check.UNKNOWN, rich, disc -> disc.remove(5));
    }

    private static void refusedOthers() {
        changesNothing("type: FULL", Check.FULL, RefusedTest::withFullText, disc -> disc.type('8'));
        changesNothing("undo: NONE", Check.NONE, RefusedTest::withoutHistory, DiscArcs::undo);
        changesNothing("undo: NONE on a new object", Check.NONE, DiscArcs::new, DiscArcs::undo);
        changesNothing("restore: NONE", Check.NONE, RefusedTest::withoutSnapshot, DiscArcs::restore);
        changesNothing("restore: NONE on a new object", Check.NONE, DiscArcs::new, DiscArcs::restore);
        changesNothing("clearText of an empty text", 0, () -> withTextOf(rich(), ""), DiscArcs::clearText);
    }

    private static void questions() {
        Maker rich = RefusedTest::rich;
        for (int what = -1; what <= 8; what++) {
            int asked = what;
            changesNothing("photo", rich().photo(2, asked), rich, disc -> disc.photo(2, asked));
            changesNothing("best", rich().best(asked), rich, disc -> disc.best(asked));
            changesNothing("track", rich().track(0, asked), rich, disc -> disc.track(0, asked));
            changesNothing("spin", rich().spin(asked), rich, disc -> disc.spin(asked));
            changesNothing("count", rich().count(asked), rich, disc -> disc.count(asked));
            changesNothing("fitsFrom", rich().fitsFrom(asked), rich, disc -> disc.fitsFrom(asked));
            changesNothing("bestAt", rich().bestAt(1, asked, 0), rich, disc -> disc.bestAt(1, asked, 0));
            changesNothing("hits", rich().hits(asked, 3, 4), rich, disc -> disc.hits(asked, 3, 4));
            changesNothing("arc", rich().arc(asked, 3, 4, 5, 1, 1), rich, disc -> disc.arc(asked, 3, 4, 5, 1, 1));
        }
        changesNothing("lands", rich().lands(), rich, DiscArcs::lands);
        changesNothing("fits", rich().fits(1, 1), rich, disc -> disc.fits(1, 1));
        changesNothing("angleAt", rich().angleAt(99), rich, disc -> disc.angleAt(99));
    }

    /** A question between two others must not lead them astray. */
    private static void questionsOneBehindTheOther() {
        DiscArcs disc = Check.heights(0, 0, 0, 7, 0, 50, 9);
        String best = Check.best(disc);
        String rows = Check.rows(disc);
        long at = disc.bestAt(9, 1, 0);
        disc.hits(4, 5, 6);
        Check.due("bestAt behind hits", disc.bestAt(9, 1, 0), at);
        disc.arc(6, 5, 3, 9, 1, 0);
        Check.due("best behind arc", Check.best(disc), best);
        disc.fitsFrom(3);
        Check.due("rows behind fitsFrom", Check.rows(disc), rows);
        disc.setAngle(0, 5, 0);
        disc.setAngle(3, 8, 0);
        String spin = Check.spin(disc);
        disc.fits(180, 359);
        Check.due("spin behind fits", Check.spin(disc), spin);
        disc.angleAt(77);
        Check.due("spin behind angleAt", Check.spin(disc), spin);
    }

    /** What is done with one object does nothing to another. */
    private static void twoObjects() {
        DiscArcs one = rich();
        String before = Check.tell(one);
        DiscArcs two = new DiscArcs();
        two.addPhoto(50, 1, 2, 3);
        two.setAngle(0, 4, 5);
        two.keep();
        two.remove(0);
        Check.write(two, "99");
        Check.due("one object", Check.tell(one), before);
        two.undo();
        Check.due("the other's snapshot", two.restore(), 1);
        Check.due("the one's snapshot", one.restore(), 2);
    }

    public static void main(String[] args) {
        Check.says("A call that returns an error or NONE changes nothing.");
        refusedAdding();
        refusedChanges();
        refusedOthers();
        Check.says("Nothing is promised beyond the answers and state changes described above.");
        questions();
        questionsOneBehindTheOther();
        twoObjects();
        Check.end();
    }
}
