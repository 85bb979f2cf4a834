/** The boundaries of "Terms", HISTORY: four states, none, what is recorded and what a state is. */
public final class HistoryTest {
    private interface Call {
        int on(DiscArcs disc);
    }

    /** Four photos on an arc, one that it misses and one aside; with an angle, four states and a text. */
    private static DiscArcs six() {
        DiscArcs disc = new DiscArcs();
        disc.addPhoto(0, 0, 100, 0);
        disc.addPhoto(2, 10, 96, 1);
        disc.addPhoto(4, 20, 84, 0);
        disc.addPhoto(6, 30, 64, 3);
        disc.addPhoto(8, 90, 36, 5);
        disc.addPhoto(9, 9, 9, 9);
        disc.setAngle(1, 350, 5);
        disc.setAside(5, true);
        Check.write(disc, "5:1,2,3@4,5");
        return disc;
    }

    /** The photos alone, without the counts of states and characters. */
    private static String photosOf(DiscArcs disc) {
        String all = Check.tell(disc);
        int bar = all.indexOf('|');
        return bar < 0 ? "" : all.substring(bar);
    }

    /** The same photos, with an empty history. */
    private static DiscArcs withoutStates() {
        DiscArcs disc = six();
        for (int i = 0; i < 2; i++) {
            disc.move(0, 1, 1);
            disc.move(0, 0, 100);
        }
        // All four states that are left come from these moves; the oldest one is where they began.
        for (int i = 0; i < 4; i++) {
            disc.undo();
        }
        return disc;
    }

    private static void atMostFour() {
        Check.says("A history of at most 4 states is kept; when one more is recorded, the oldest one is dropped");
        for (int acts = 0; acts <= 10; acts++) {
            DiscArcs disc = new DiscArcs();
            for (int i = 0; i < acts; i++) {
                disc.addPhoto(i, 0, 0, 0);
                Check.due("states of " + (i + 1), disc.count(4), Math.min(i + 1, 4));
            }
            int states = Math.min(acts, 4);
            for (int left = states - 1; left >= 0; left--) {
                Check.due("left of " + acts, disc.undo(), left);
                Check.due("states left of " + acts, disc.count(4), left);
                Check.due("photos back from " + acts, disc.count(0), acts - states + left);
            }
            String before = Check.tell(disc);
            Check.due("no state is left of " + acts, disc.undo(), Check.NONE);
            Check.due("nothing changes", Check.tell(disc), before);
        }
    }

    private static void fullAgain() {
        Check.says("undo() removes and restores the latest one");
        DiscArcs disc = Check.heights(0);
        for (int x = 1; x <= 6; x++) {
            disc.move(0, x, 0);
        }
        Check.due("latest", disc.undo(), 3);
        Check.due("x", disc.photo(0, 1), 1005);
        disc.move(0, 100, 0);
        Check.due("full again", disc.count(4), 4);
        disc.move(0, 101, 0);
        Check.due("full still", disc.count(4), 4);
        int[] xs = {1100, 1005, 1004, 1003};
        for (int i = 0; i < 4; i++) {
            Check.due("states left", disc.undo(), 3 - i);
            Check.due("x", disc.photo(0, 1), xs[i]);
        }
        Check.due("those before were dropped", disc.undo(), Check.NONE);
        Check.due("x stays", disc.photo(0, 1), 1003);
        disc.move(0, 7, 0);
        Check.due("the first one of a history that was empty", disc.undo(), 0);
        Check.due("x", disc.photo(0, 1), 1003);
        for (int i = 0; i < 100; i++) {
            disc.move(0, i, 50);
        }
        for (int left = 3; left >= 0; left--) {
            Check.due("states left of many", disc.undo(), left);
            Check.due("x of many", disc.photo(0, 1), 1095 + left);
        }
        Check.due("no more of many", disc.undo(), Check.NONE);
    }

    private static void isAnAct(String what, int answer, Call call) {
        String before = photosOf(six());
        DiscArcs first = withoutStates();
        Check.due(what, call.on(first), answer);
        Check.due("states behind " + what, first.count(4), 1);
        Check.due("undo of " + what, first.undo(), 0);
        Check.due("the state that was before " + what, photosOf(first), before);
        DiscArcs full = six();
        Check.due(what + " with four states", call.on(full), answer);
        Check.due("states of four behind " + what, full.count(4), 4);
        Check.due("undo with four states of " + what, full.undo(), 3);
        Check.due("the state that was before " + what + " with four", photosOf(full), before);
        // The act before is setAside(5, true) in six().
        full.undo();
        Check.due("the state one further behind " + what, full.photo(5, 6), 0);
    }

    private static void isNoAct(String what, Call call) {
        String before = photosOf(six());
        DiscArcs none = withoutStates();
        call.on(none);
        Check.due("states behind " + what, none.count(4), 0);
        Check.due("photos behind " + what, photosOf(none), before);
        DiscArcs full = six();
        call.on(full);
        Check.due("states of four behind " + what, full.count(4), 4);
        Check.due("photos of four behind " + what, photosOf(full), before);
        full.undo();
        Check.due("the latest state behind " + what, full.photo(5, 6), 0);
    }

    private static void acts() {
        Check.says("Each call of a method that is described as an act records the state that was before it.");
        isAnAct("addPhoto", 3, disc -> disc.addPhoto(5, 1, 1, 1));
        isAnAct("readPhoto", 3, DiscArcs::readPhoto);
        isAnAct("setAngle", 350, disc -> disc.setAngle(1, 10, 1));
        isAnAct("setAngle to none", 350, disc -> disc.setAngle(1, 360, 0));
        isAnAct("setAngle of the error", 350, disc -> disc.setAngle(1, 350, 6));
        isAnAct("move", 2, disc -> disc.move(0, 1, 1));
        isAnAct("setAside", 4, disc -> disc.setAside(0, true));
        isAnAct("setAside back", 6, disc -> disc.setAside(5, false));
        isAnAct("dropMissed", 1, DiscArcs::dropMissed);
        isAnAct("remove", 5, disc -> disc.remove(0));
        isAnAct("remove of the last", 5, disc -> disc.remove(5));
        isAnAct("restore", 6, HistoryTest::keepAndRestore);
        isNoAct("type", disc -> disc.type('9'));
        isNoAct("clearText", DiscArcs::clearText);
        isNoAct("keep", DiscArcs::keep);
        isNoAct("count", disc -> disc.count(0));
        isNoAct("best", disc -> disc.best(0));
        isNoAct("hits", disc -> disc.hits(0, 1, 2));
        isNoAct("lands", DiscArcs::lands);
        isNoAct("track", disc -> disc.track(0, 0));
        isNoAct("fitsFrom", disc -> disc.fitsFrom(0));
        isNoAct("spin", disc -> disc.spin(0));
        isNoAct("fits", disc -> disc.fits(0, 0));
        isNoAct("angleAt", disc -> disc.angleAt(0));
    }

    private static int keepAndRestore(DiscArcs disc) {
        disc.keep();
        return disc.restore();
    }

    private static void noActs() {
        Check.says("and returns no error and not NONE");
        isNoAct("addPhoto: BAD_VALUE", disc -> disc.addPhoto(5, 1, 1, 41));
        isNoAct("addPhoto: NOT_POSSIBLE", disc -> disc.addPhoto(0, 1, 1, 1));
        isNoAct("readPhoto: a fault", disc -> Check.read(disc, "5:1,2,3@"));
        isNoAct("readPhoto: BAD_VALUE", disc -> Check.read(disc, "5:1,2,41"));
        isNoAct("readPhoto: NOT_POSSIBLE", disc -> Check.read(disc, "0:1,2,3"));
        isNoAct("setAngle: UNKNOWN", disc -> disc.setAngle(6, 1, 1));
        isNoAct("setAngle: BAD_VALUE", disc -> disc.setAngle(0, 360, 1));
        isNoAct("setAngle: NONE", disc -> disc.setAngle(0, 360, 0));
        isNoAct("move: UNKNOWN", disc -> disc.move(6, 1, 1));
        isNoAct("move: BAD_VALUE", disc -> disc.move(0, 1, 401));
        isNoAct("move: NONE", disc -> disc.move(0, 0, 100));
        isNoAct("setAside: UNKNOWN", disc -> disc.setAside(6, true));
        isNoAct("setAside: NONE", disc -> disc.setAside(0, false));
        isNoAct("remove: UNKNOWN", disc -> disc.remove(6));
        isNoAct("restore: NONE", DiscArcs::restore);
        DiscArcs line = Check.heights(3, 2, 1);
        Check.due("dropMissed: NONE", line.dropMissed(), Check.NONE);
        Check.due("states", line.count(4), 3);
        line.remove(0);
        Check.due("dropMissed: NOT_POSSIBLE", line.dropMissed(), Check.NOT_POSSIBLE);
        Check.due("states", line.count(4), 4);
        Check.due("the latest is the one before remove", line.undo(), 3);
        Check.due("photos", line.count(0), 3);
        DiscArcs full = Check.full();
        for (int i = 0; i < 5; i++) {
            Check.due("addPhoto: FULL", full.addPhoto(5, 0, 0, 0), Check.FULL);
        }
        Check.due("the latest is the one before the tenth", full.undo(), 3);
        Check.due("photos", full.count(0), 9);
    }

    private static void whatAStateIs() {
        Check.says("A state is everything but the text, the history and the snapshot.");
        DiscArcs disc = new DiscArcs();
        Check.due("read", Check.read(disc, "1:2,3,4@5,6"), 0);
        disc.undo();
        Check.due("the text is not undone", disc.count(5), 11);
        Check.due("it is as it was", disc.readPhoto(), 0);
        disc.clearText();
        disc.undo();
        Check.due("nor brought back", disc.count(5), 0);
        disc.addPhoto(1, 1, 1, 1);
        disc.keep();
        Check.type(disc, "77");
        disc.addPhoto(2, 2, 2, 2);
        disc.undo();
        disc.undo();
        Check.due("the snapshot is not undone", disc.restore(), 1);
        Check.due("the text is not restored", disc.count(5), 2);
        disc.addPhoto(3, 3, 3, 3);
        disc.addPhoto(4, 4, 4, 4);
        Check.due("states", disc.count(4), 3);
        Check.due("restored", disc.restore(), 1);
        Check.due("the history is not restored", disc.count(4), 4);
        Check.due("restore is undone", disc.undo(), 3);
        Check.due("photos", disc.count(0), 3);
        Check.due("and so is the one before it", disc.undo(), 2);
        Check.due("photos", disc.count(0), 2);
    }

    private static void snapshot() {
        Check.says("There is one snapshot, empty at first.");
        DiscArcs disc = new DiscArcs();
        Check.due("empty at first", disc.restore(), Check.NONE);
        disc.addPhoto(1, 1, 1, 1);
        Check.due("empty still", disc.restore(), Check.NONE);
        Check.due("photos stay", disc.count(0), 1);
        disc.remove(0);
        Check.due("a snapshot of no photos", disc.keep(), 0);
        disc.addPhoto(2, 2, 2, 2);
        Check.due("is not an empty one", disc.restore(), 0);
        Check.due("restored", disc.count(0), 0);
        Check.says("Takes a snapshot of the state, in place of the one that was.");
        for (int time = 0; time < 10; time++) {
            disc.addPhoto(time, time, -time, time);
            disc.setAngle(time, time, time);
            Check.due("photos kept", disc.keep(), time + 1);
        }
        String kept = photosOf(disc);
        Check.says("Restores the state of the snapshot, which stays.");
        for (int again = 0; again < 3; again++) {
            disc.remove(again);
            disc.move(again, 400, 400);
            disc.setAngle(again, 300, 60);
            disc.setAside(again, true);
            Check.due("photos then", disc.restore(), 10);
            Check.due("all is restored", photosOf(disc), kept);
        }
        Check.due("of the same state", disc.restore(), 10);
        Check.due("an act as well", disc.undo(), 3);
        Check.due("the same state", photosOf(disc), kept);
        disc.undo();
        Check.due("the one before it", disc.count(0), 9);
        Check.due("it stays behind undo", disc.restore(), 10);
        Check.due("all is restored", photosOf(disc), kept);
        disc.setAside(9, true);
        disc.keep();
        disc.setAside(9, false);
        disc.undo();
        disc.undo();
        Check.due("undo goes behind keep", disc.photo(9, 6), 0);
        Check.due("the later snapshot", disc.restore(), 10);
        Check.due("with the one aside", disc.photo(9, 6), 1);
    }

    public static void main(String[] args) {
        atMostFour();
        fullAgain();
        acts();
        noActs();
        whatAStateIs();
        snapshot();
        Check.end();
    }
}
