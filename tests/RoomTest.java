import java.lang.management.ManagementFactory;

/** No call makes an object, so that all calls of a run live in one room; and the last calls answer as the first. */
public final class RoomTest {
    private static final int CALLS = 512;
    private static final int ROUNDS = 20;

    private static final com.sun.management.ThreadMXBean THREADS =
            (com.sun.management.ThreadMXBean) ManagementFactory.getThreadMXBean();

    private static long made() {
        return THREADS.getThreadAllocatedBytes(Thread.currentThread().getId());
    }

    /** One call of each method; the numbers go through what is in range and what is not. */
    private static long callAll(DiscArcs disc, int i) {
        long sum = disc.addPhoto(i * 7 % 101, i * 37 % 300, i * 53 % 300, i % 42);
        sum += disc.setAngle(i % 11, i * 91 % 362, i * 3 % 62);
        sum += disc.move(i % 11, i * 17 % 402, i * 19 % 402);
        sum += disc.setAside(i * 3 % 11, i % 3 == 0);
        sum += disc.type((char) ('0' + i % 16));
        sum += disc.readPhoto();
        sum += i % 9 == 0 ? disc.dropMissed() : disc.undo();
        sum += i % 13 == 0 ? disc.remove(i % 11) : disc.keep();
        sum += i % 17 == 0 ? disc.restore() : disc.clearText();
        sum += disc.photo(i % 11, i % 9);
        sum += disc.arc(i % 11, (i + 1) % 11, (i + 2) % 11, i % 101, i % 3, i % 2);
        sum += disc.hits(i % 11, (i + 1) % 11, (i + 2) % 11);
        sum += disc.best(i % 6) + disc.bestAt(i % 101, i % 3, i % 2) + disc.lands();
        sum += disc.track(i % 5, i % 7) + disc.fitsFrom(i % 11);
        sum += disc.spin(i % 5) + disc.fits(i % 182, i % 361) + disc.angleAt(i % 101);
        return sum + disc.count(i % 7);
    }

    private static long madeByCalls(DiscArcs disc) {
        long before = made();
        for (int i = 0; i < CALLS / 21 - 1; i++) {
            callAll(disc, i);
        }
        return made() - before;
    }

    private static void noCallMakesAnObject() {
        Check.says("All calls of one run live in one room");
        long least = Long.MAX_VALUE;
        for (int round = 0; round < ROUNDS; round++) {
            // The machine itself may make something in the first rounds.
            least = Math.min(least, madeByCalls(Check.angles(10, 50, 90, 130, 7)));
        }
        Check.due("bytes that the calls make", least, 0);
    }

    private static void theLastCalls() {
        Check.says("An object is used for at most 512 calls after it has been made");
        DiscArcs disc = Check.heights(100, 96, 84, 64);
        for (int call = 4; call < CALLS - 6; call++) {
            disc.move(3, call - 200, 64);
        }
        Check.due("the last move", disc.move(3, 0, 64), 0);
        Check.due("states", disc.count(4), 4);
        Check.due("lands", disc.lands(), 5);
        Check.due("rows", disc.count(3), 1);
        Check.due("undo", disc.undo(), 3);
        Check.due("the 512th call", disc.photo(3, 1), 1000 + CALLS - 7 - 200);
    }

    public static void main(String[] args) {
        noCallMakesAnObject();
        theLastCalls();
        Check.end();
    }
}
