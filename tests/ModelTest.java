import java.math.BigInteger;
import java.util.ArrayList;
import java.util.Arrays;
import java.util.Collections;
import java.util.Comparator;
import java.util.List;
import java.util.Random;
import java.util.regex.Matcher;
import java.util.regex.Pattern;

/**
 * Long runs of calls on DiscArcs and on a second program, which follows the
 * document by trying everything out: all partings, all spins, all beginnings.
 */
public final class ModelTest {
    private static final int CALLS = 512;
    private static int wrong = 0;

    /** One photo; it is never changed, so that states may share it. */
    private record Shot(int time, int x, int y, int error, int angle, int angleError, boolean aside) {
        Shot at(int newX, int newY) {
            return new Shot(time, newX, newY, error, angle, angleError, aside);
        }

        Shot turned(int newAngle, int newError) {
            return new Shot(time, x, y, error, newAngle, newError, aside);
        }

        Shot put(boolean is) {
            return new Shot(time, x, y, error, angle, angleError, is);
        }

        boolean marked() {
            return !aside && angle != 360;
        }
    }

    private record Fraction(BigInteger upper, BigInteger lower) {
        static Fraction of(long upper, long lower) {
            BigInteger u = BigInteger.valueOf(upper);
            BigInteger l = BigInteger.valueOf(lower);
            if (l.signum() < 0) {
                u = u.negate();
                l = l.negate();
            }
            BigInteger g = u.gcd(l);
            return new Fraction(u.divide(g), l.divide(g));
        }

        Fraction plus(Fraction other) {
            BigInteger u = upper.multiply(other.lower).add(other.upper.multiply(lower));
            BigInteger l = lower.multiply(other.lower);
            BigInteger g = u.gcd(l);
            return new Fraction(u.divide(g), l.divide(g));
        }

        boolean within(int place, int error) {
            BigInteger away = upper.subtract(lower.multiply(BigInteger.valueOf(place))).abs();
            return away.compareTo(lower.multiply(BigInteger.valueOf(error))) <= 0;
        }

        long part(int part) {
            return part == 0 ? upper.longValueExact() + 10_000_000_000L : lower.longValueExact();
        }
    }

    /** The second program. */
    private static final class Model {
        List<Shot> shots = new ArrayList<>();
        List<Shot> snapshot = null;
        final List<List<Shot>> history = new ArrayList<>();
        String text = "";

        private void act(List<Shot> next) {
            history.add(shots);
            if (history.size() > 4) {
                history.remove(0);
            }
            shots = next;
        }

        private boolean unknown(int photo) {
            return photo < 0 || photo >= shots.size();
        }

        private static boolean out(int value, int least, int most) {
            return value < least || value > most;
        }

        private List<Shot> with(int photo, Shot shot) {
            List<Shot> next = new ArrayList<>(shots);
            next.set(photo, shot);
            return next;
        }

        private int add(Shot shot) {
            for (Shot other : shots) {
                if (other.time == shot.time) {
                    return -4;
                }
            }
            if (shots.size() == 10) {
                return -3;
            }
            List<Shot> next = new ArrayList<>(shots);
            next.add(shot);
            next.sort(Comparator.comparingInt(Shot::time));
            act(next);
            return next.indexOf(shot);
        }

        int addPhoto(int time, int x, int y, int error) {
            if (out(time, 0, 99) || out(x, -400, 400) || out(y, -400, 400) || out(error, 0, 40)) {
                return -2;
            }
            return add(new Shot(time, x, y, error, 360, 0, false));
        }

        private static final String NUMBER = "(0|[1-9][0-9]{0,2})";
        private static final String SIGNED = "(0|-?[1-9][0-9]{0,2})";
        private static final Pattern WHOLE = Pattern.compile(
                NUMBER + ":" + SIGNED + "," + SIGNED + "," + NUMBER + "(?:@" + NUMBER + "," + NUMBER + ")?");

        /** The longest beginning that some right text has too: hitEnd tells whether more may come. */
        private int fault() {
            for (int length = 1; length <= text.length(); length++) {
                Matcher matcher = WHOLE.matcher(text.substring(0, length));
                boolean whole = matcher.matches();
                if (!whole && !matcher.hitEnd()) {
                    return length - 1;
                }
            }
            return WHOLE.matcher(text).matches() ? -1 : text.length();
        }

        int readPhoto() {
            int fault = fault();
            if (fault >= 0) {
                return -100 - fault;
            }
            Matcher m = WHOLE.matcher(text);
            m.matches();
            int time = Integer.parseInt(m.group(1));
            int x = Integer.parseInt(m.group(2));
            int y = Integer.parseInt(m.group(3));
            int error = Integer.parseInt(m.group(4));
            int angle = 360;
            int angleError = 0;
            if (out(time, 0, 99) || out(x, -400, 400) || out(y, -400, 400) || out(error, 0, 40)) {
                return -2;
            }
            if (m.group(5) != null) {
                angle = Integer.parseInt(m.group(5));
                angleError = Integer.parseInt(m.group(6));
                if (out(angle, 0, 359) || out(angleError, 0, 60)) {
                    return -2;
                }
            }
            return add(new Shot(time, x, y, error, angle, angleError, false));
        }

        int setAngle(int photo, int angle, int error) {
            if (unknown(photo)) {
                return -1;
            }
            if (out(angle, 0, 360) || out(error, 0, 60) || angle == 360 && error > 0) {
                return -2;
            }
            Shot shot = shots.get(photo);
            if (shot.equals(shot.turned(angle, error))) {
                return -5;
            }
            act(with(photo, shot.turned(angle, error)));
            return shot.angle;
        }

        int move(int photo, int x, int y) {
            if (unknown(photo)) {
                return -1;
            }
            if (out(x, -400, 400) || out(y, -400, 400)) {
                return -2;
            }
            Shot shot = shots.get(photo);
            if (shot.equals(shot.at(x, y))) {
                return -5;
            }
            act(with(photo, shot.at(x, y)));
            int[] arc = bestArc();
            return arc == null ? 0 : missed(arc).size();
        }

        int setAside(int photo, boolean is) {
            if (unknown(photo)) {
                return -1;
            }
            if (shots.get(photo).aside == is) {
                return -5;
            }
            act(with(photo, shots.get(photo).put(is)));
            return usable().size();
        }

        int dropMissed() {
            int[] arc = bestArc();
            if (arc == null) {
                return -4;
            }
            List<Integer> missed = missed(arc);
            if (missed.isEmpty()) {
                return -5;
            }
            List<Shot> next = new ArrayList<>(shots);
            for (int photo : missed) {
                next.set(photo, next.get(photo).put(true));
            }
            act(next);
            return missed.size();
        }

        int remove(int photo) {
            if (unknown(photo)) {
                return -1;
            }
            List<Shot> next = new ArrayList<>(shots);
            next.remove(photo);
            act(next);
            return next.size();
        }

        int type(char character) {
            if (text.length() == 60) {
                return -3;
            }
            text += character;
            return text.length();
        }

        int clearText() {
            int before = text.length();
            text = "";
            return before;
        }

        int undo() {
            if (history.isEmpty()) {
                return -5;
            }
            shots = history.remove(history.size() - 1);
            return history.size();
        }

        int keep() {
            snapshot = shots;
            return shots.size();
        }

        int restore() {
            if (snapshot == null) {
                return -5;
            }
            act(snapshot);
            return shots.size();
        }

        int photo(int photo, int what) {
            if (unknown(photo)) {
                return -1;
            }
            if (out(what, 0, 7)) {
                return -2;
            }
            Shot shot = shots.get(photo);
            boolean none = shot.angle == 360;
            return switch (what) {
                case 0 -> shot.time;
                case 1 -> shot.x + 1000;
                case 2 -> shot.y + 1000;
                case 3 -> shot.error;
                case 4 -> none ? -5 : shot.angle;
                case 5 -> none ? -5 : shot.angleError;
                case 6 -> shot.aside ? 1 : 0;
                default -> !shot.marked() ? -5 : spins(shot, bestSpin()[0], bestSpin()[1]) ? 1 : 0;
            };
        }

        private List<Integer> usable() {
            List<Integer> list = new ArrayList<>();
            for (int i = 0; i < shots.size(); i++) {
                if (!shots.get(i).aside) {
                    list.add(i);
                }
            }
            return list;
        }

        private static int bits(List<Integer> list) {
            int set = 0;
            for (int i : list) {
                set += 1 << i;
            }
            return set;
        }

        private Fraction at(int[] arc, long u, int what) {
            Shot a = shots.get(arc[0]);
            Shot b = shots.get(arc[1]);
            Shot c = shots.get(arc[2]);
            return term(a, b, c, u, what).plus(term(b, a, c, u, what)).plus(term(c, a, b, u, what));
        }

        /** Lagrange's term for one of the photos: the document's sum over one lower number, apart. */
        private static Fraction term(Shot own, Shot one, Shot two, long u, int what) {
            long value = what == 0 ? own.x : own.y;
            return Fraction.of(value * (u - one.time) * (u - two.time),
                    (long) (own.time - one.time) * (own.time - two.time));
        }

        private boolean hit(int[] arc, int photo) {
            Shot shot = shots.get(photo);
            return at(arc, shot.time, 0).within(shot.x, shot.error)
                    && at(arc, shot.time, 1).within(shot.y, shot.error);
        }

        private List<Integer> missed(int[] arc) {
            List<Integer> list = usable();
            list.removeIf(photo -> hit(arc, photo));
            return list;
        }

        private static List<int[]> arcsOf(List<Integer> list) {
            List<int[]> arcs = new ArrayList<>();
            for (int i : list) {
                for (int j : list) {
                    for (int k : list) {
                        if (i < j && j < k) {
                            arcs.add(new int[] {i, j, k});
                        }
                    }
                }
            }
            arcs.sort(Arrays::compare);
            return arcs;
        }

        private int[] bestArc() {
            int[] best = null;
            int fewest = 99;
            for (int[] arc : arcsOf(usable())) {
                int misses = missed(arc).size();
                if (misses < fewest) {
                    fewest = misses;
                    best = arc;
                }
            }
            return best;
        }

        private long askThree(int one, int two, int three, boolean bad) {
            if (unknown(one) || unknown(two) || unknown(three)) {
                return -1;
            }
            if (one == two || two == three || one == three || bad) {
                return -2;
            }
            if (shots.get(one).aside || shots.get(two).aside || shots.get(three).aside) {
                return -4;
            }
            return 0;
        }

        private static boolean badPlace(int time, int what, int part) {
            return out(time, 0, 99) || out(what, 0, 1) || out(part, 0, 1);
        }

        long arc(int one, int two, int three, int time, int what, int part) {
            long error = askThree(one, two, three, badPlace(time, what, part));
            return error < 0 ? error : at(new int[] {one, two, three}, time, what).part(part);
        }

        int hits(int one, int two, int three) {
            int error = (int) askThree(one, two, three, false);
            if (error < 0) {
                return error;
            }
            List<Integer> hit = usable();
            hit.removeAll(missed(new int[] {one, two, three}));
            return bits(hit);
        }

        int best(int what) {
            if (out(what, 0, 4)) {
                return -2;
            }
            int[] arc = bestArc();
            if (arc == null) {
                return -4;
            }
            if (what < 3) {
                return arc[what];
            }
            return what == 3 ? missed(arc).size() : bits(missed(arc));
        }

        long bestAt(int time, int what, int part) {
            if (badPlace(time, what, part)) {
                return -2;
            }
            int[] arc = bestArc();
            return arc == null ? -4 : at(arc, time, what).part(part);
        }

        int lands() {
            int[] arc = bestArc();
            if (arc == null) {
                return -4;
            }
            for (int time = shots.get(arc[0]).time; time < 100; time++) {
                if (at(arc, time, 1).upper.signum() <= 0) {
                    return time;
                }
            }
            return -5;
        }

        private int[] rowArc(List<Integer> row) {
            for (int[] arc : arcsOf(row)) {
                boolean all = true;
                for (int photo : row) {
                    all = all && hit(arc, photo);
                }
                if (all) {
                    return arc;
                }
            }
            return null;
        }

        private boolean rowFits(List<Integer> row) {
            return row.size() <= 2 || rowArc(row) != null;
        }

        private List<List<Integer>> cachedTrack;
        private List<Shot> cachedFor;

        /** All partings are tried; it is asked often, so the answer for the same state is kept. */
        private List<List<Integer>> track() {
            if (cachedFor != shots) {
                cachedTrack = findTrack();
                cachedFor = shots;
            }
            return cachedTrack;
        }

        private List<List<Integer>> findTrack() {
            List<Integer> list = usable();
            if (list.isEmpty()) {
                return List.of();
            }
            int size = list.size();
            boolean[][] fits = new boolean[size + 1][size + 1];
            for (int i = 0; i < size; i++) {
                for (int j = i + 1; j <= size; j++) {
                    fits[i][j] = rowFits(list.subList(i, j));
                }
            }
            List<List<Integer>> best = null;
            List<Integer> bestLengths = null;
            // A bit of cuts is set where a row ends between two photos.
            for (int cuts = 0; cuts < 1 << size - 1; cuts++) {
                List<List<Integer>> rows = new ArrayList<>();
                List<Integer> lengths = new ArrayList<>();
                boolean all = true;
                int from = 0;
                for (int end = 1; end <= size; end++) {
                    if (end == size || (cuts >> end - 1 & 1) == 1) {
                        all = all && fits[from][end];
                        rows.add(list.subList(from, end));
                        lengths.add(end - from);
                        from = end;
                    }
                }
                if (all && (best == null || rows.size() < best.size()
                        || rows.size() == best.size() && isLonger(lengths, bestLengths))) {
                    best = rows;
                    bestLengths = lengths;
                }
            }
            return best;
        }

        private static boolean isLonger(List<Integer> lengths, List<Integer> others) {
            for (int i = 0; i < lengths.size(); i++) {
                int order = lengths.get(i) - others.get(i);
                if (order != 0) {
                    return order > 0;
                }
            }
            return false;
        }

        int track(int row, int what) {
            if (row < 0 || out(what, 0, 5)) {
                return -2;
            }
            if (row >= track().size()) {
                return -5;
            }
            List<Integer> photos = track().get(row);
            if (what < 2) {
                return what == 0 ? Collections.min(photos) : Collections.max(photos);
            }
            if (what == 2) {
                return bits(photos);
            }
            return photos.size() < 3 ? -5 : rowArc(photos)[what - 3];
        }

        int fitsFrom(int photo) {
            if (unknown(photo)) {
                return -1;
            }
            if (shots.get(photo).aside) {
                return -4;
            }
            List<Integer> list = usable();
            list.removeIf(other -> other < photo);
            int longest = 0;
            for (int end = 1; end <= list.size(); end++) {
                if (rowFits(list.subList(0, end))) {
                    longest = end;
                }
            }
            return longest;
        }

        private static boolean spins(Shot shot, int spin, int beginning) {
            int angle = ((beginning + spin * shot.time) % 360 + 360) % 360;
            int up = ((angle - shot.angle) % 360 + 360) % 360;
            return up <= shot.angleError || 360 - up <= shot.angleError;
        }

        private int[] cachedSpin;
        private List<Shot> cachedSpinFor;

        private int[] bestSpin() {
            if (cachedSpinFor != shots) {
                cachedSpin = findSpin();
                cachedSpinFor = shots;
            }
            return cachedSpin;
        }

        /** Spin, beginning and how many it fits; all of them are tried. */
        private int[] findSpin() {
            int[] best = null;
            for (int spin = -179; spin <= 180; spin++) {
                for (int beginning = 0; beginning < 360; beginning++) {
                    int[] here = {spin, beginning, fitCount(spin, beginning)};
                    if (best == null || isBetterSpin(here, best)) {
                        best = here;
                    }
                }
            }
            return best;
        }

        private static boolean isBetterSpin(int[] one, int[] other) {
            if (one[2] != other[2]) {
                return one[2] > other[2];
            }
            if (Math.abs(one[0]) != Math.abs(other[0])) {
                return Math.abs(one[0]) < Math.abs(other[0]);
            }
            return one[0] != other[0] ? one[0] > 0 : one[1] < other[1];
        }

        private int fitCount(int spin, int beginning) {
            int count = 0;
            for (Shot shot : shots) {
                if (shot.marked() && spins(shot, spin, beginning)) {
                    count++;
                }
            }
            return count;
        }

        private int markedBits() {
            int set = 0;
            for (int i = 0; i < shots.size(); i++) {
                set += shots.get(i).marked() ? 1 << i : 0;
            }
            return set;
        }

        int spin(int what) {
            if (out(what, 0, 3)) {
                return -2;
            }
            if (markedBits() == 0) {
                return -4;
            }
            int[] spin = bestSpin();
            if (what < 3) {
                return what == 0 ? spin[0] + 200 : spin[what];
            }
            int set = 0;
            for (int i = 0; i < shots.size(); i++) {
                set += shots.get(i).marked() && spins(shots.get(i), spin[0], spin[1]) ? 1 << i : 0;
            }
            return set;
        }

        int fits(int spin, int beginning) {
            return out(spin, -179, 180) || out(beginning, 0, 359) ? -2 : fitCount(spin, beginning);
        }

        int angleAt(int time) {
            if (out(time, 0, 99)) {
                return -2;
            }
            if (markedBits() == 0) {
                return -4;
            }
            return ((bestSpin()[1] + bestSpin()[0] * time) % 360 + 360) % 360;
        }

        int count(int what) {
            return switch (what) {
                case 0 -> shots.size();
                case 1 -> bits(usable());
                case 2 -> markedBits();
                case 3 -> track().size();
                case 4 -> history.size();
                case 5 -> text.length();
                default -> -2;
            };
        }
    }

    /** One run: both programs are called alike, and all that they tell is compared. */
    private static final class Run {
        final Random random;
        final int seed;
        final DiscArcs disc = new DiscArcs();
        final Model model = new Model();
        int calls = 0;
        /** The disc that the photos of this run show, so that arcs and spins find something. */
        final int[] flight = new int[9];

        Run(int seed) {
            this.seed = seed;
            random = new Random(seed);
            for (int i = 0; i < flight.length; i++) {
                flight[i] = between(-9, 9);
            }
        }

        int between(int least, int most) {
            return least + random.nextInt(most - least + 1);
        }

        /** Mostly in range, at times at its edges or just outside. */
        int near(int least, int most) {
            int kind = random.nextInt(40);
            if (kind == 0) {
                return least - 1;
            }
            if (kind == 1) {
                return most + 1;
            }
            if (kind == 2) {
                return random.nextBoolean() ? Integer.MAX_VALUE : Integer.MIN_VALUE;
            }
            if (kind < 6) {
                return random.nextBoolean() ? least : most;
            }
            return between(least, most);
        }

        int somePhoto() {
            return near(0, Math.max(0, model.shots.size() - 1));
        }

        int time() {
            return random.nextInt(4) == 0 ? near(0, 99) : between(0, 14);
        }

        int placeAt(int time, int what) {
            int place = flight[3 * what] * 8 + flight[3 * what + 1] * time + flight[3 * what + 2] * time * time / 9;
            int off = random.nextInt(3) == 0 ? between(-40, 40) : between(-2, 2);
            return Math.max(-400, Math.min(400, place + off));
        }

        int angleAt(int time) {
            int off = random.nextInt(3) == 0 ? between(-90, 90) : between(-4, 4);
            return Math.floorMod(flight[6] * 19 + flight[7] * 20 * time + off, 360);
        }

        int angleError() {
            return random.nextInt(3) == 0 ? near(0, 60) : between(0, 5);
        }

        int error() {
            return random.nextInt(4) == 0 ? near(0, 40) : between(0, 4);
        }

        void due(String call, long got, long want) {
            calls++;
            if (got != want) {
                wrong++;
                System.out.println("seed " + seed + ", call " + calls + ": " + call
                        + " answered " + got + ", due is " + want);
            }
        }

        void go() {
            while (calls < CALLS - 150 && wrong == 0) {
                change();
                if (random.nextInt(4) == 0) {
                    ask();
                }
            }
            askAll();
        }

        void change() {
            int time = time();
            int photo = somePhoto();
            switch (random.nextInt(16)) {
                case 0, 1, 2, 3 -> {
                    int x = random.nextInt(9) == 0 ? near(-400, 400) : placeAt(time, 0);
                    int y = random.nextInt(9) == 0 ? near(-400, 400) : placeAt(time, 1);
                    int error = error();
                    due("addPhoto", disc.addPhoto(time, x, y, error), model.addPhoto(time, x, y, error));
                }
                case 4, 5 -> typeAll();
                case 6, 7, 8 -> {
                    int at = model.unknown(photo) ? 0 : model.shots.get(photo).time;
                    int angle = random.nextInt(6) == 0 ? near(0, 360) : angleAt(at);
                    int error = angle == 360 && random.nextInt(4) != 0 ? 0 : angleError();
                    due("setAngle", disc.setAngle(photo, angle, error), model.setAngle(photo, angle, error));
                }
                case 9 -> {
                    int x = random.nextInt(3) == 0 ? near(-400, 400) : placeAt(time, 0);
                    int y = random.nextInt(3) == 0 ? near(-400, 400) : placeAt(time, 1);
                    due("move", disc.move(photo, x, y), model.move(photo, x, y));
                    due("move again", disc.move(photo, x, y), model.move(photo, x, y));
                }
                case 10, 11 -> {
                    boolean is = random.nextInt(3) == 0;
                    due("setAside", disc.setAside(photo, is), model.setAside(photo, is));
                }
                case 12 -> {
                    if (random.nextInt(3) == 0) {
                        due("dropMissed", disc.dropMissed(), model.dropMissed());
                    } else {
                        due("undo", disc.undo(), model.undo());
                    }
                }
                case 13 -> {
                    if (random.nextInt(2) == 0) {
                        due("remove", disc.remove(photo), model.remove(photo));
                    } else {
                        due("undo", disc.undo(), model.undo());
                    }
                }
                case 14 -> due("keep", disc.keep(), model.keep());
                default -> {
                    if (random.nextInt(3) == 0) {
                        due("restore", disc.restore(), model.restore());
                    }
                }
            }
        }

        private String someText() {
            int time = time();
            StringBuilder words = new StringBuilder();
            words.append(time).append(':').append(placeAt(time, 0)).append(',').append(placeAt(time, 1));
            words.append(',').append(error());
            if (random.nextInt(2) == 0) {
                words.append('@').append(random.nextInt(9) == 0 ? near(0, 360) : angleAt(time));
                words.append(',').append(angleError());
            }
            int kind = random.nextInt(5);
            int at = random.nextInt(words.length());
            String odd = "0123456789:,@- \u0000\u00ff\uffff/;";
            if (kind == 0) {
                words.setCharAt(at, odd.charAt(random.nextInt(odd.length())));
            } else if (kind == 1) {
                words.insert(at, odd.charAt(random.nextInt(odd.length())));
            } else if (kind == 2 && random.nextInt(2) == 0) {
                words.setLength(at);
            }
            return words.toString();
        }

        private void typeAll() {
            String words = someText();
            if (random.nextInt(30) != 0) {
                due("clearText", disc.clearText(), model.clearText());
            }
            for (int i = 0; i < words.length() && calls < CALLS - 190; i++) {
                char c = words.charAt(i);
                due("type", disc.type(c), model.type(c));
            }
            due("readPhoto of '" + model.text + "'", disc.readPhoto(), model.readPhoto());
        }

        void ask() {
            int one = somePhoto();
            int two = somePhoto();
            int three = somePhoto();
            int time = near(0, 99);
            int what = near(0, 7);
            int part = near(0, 1);
            int axis = near(0, 1);
            switch (random.nextInt(12)) {
                case 0 -> due("photo", disc.photo(one, what), model.photo(one, what));
                case 1 -> due("arc", disc.arc(one, two, three, time, axis, part),
                        model.arc(one, two, three, time, axis, part));
                case 2 -> due("hits", disc.hits(one, two, three), model.hits(one, two, three));
                case 3 -> due("best", disc.best(what), model.best(what));
                case 4 -> due("bestAt", disc.bestAt(time, axis, part), model.bestAt(time, axis, part));
                case 5 -> due("lands", disc.lands(), model.lands());
                case 6 -> due("track", disc.track(one, what), model.track(one, what));
                case 7 -> due("fitsFrom", disc.fitsFrom(one), model.fitsFrom(one));
                case 8 -> due("spin", disc.spin(what), model.spin(what));
                case 9 -> {
                    int spin = near(-179, 180);
                    int beginning = near(0, 359);
                    due("fits", disc.fits(spin, beginning), model.fits(spin, beginning));
                }
                case 10 -> due("angleAt", disc.angleAt(time), model.angleAt(time));
                default -> due("count", disc.count(what), model.count(what));
            }
        }

        /** At most 145 calls that ask for all there is. */
        void askAll() {
            for (int photo = -1; photo <= model.shots.size(); photo++) {
                for (int what = 0; what < 8; what++) {
                    due("photo", disc.photo(photo, what), model.photo(photo, what));
                }
                due("fitsFrom", disc.fitsFrom(photo), model.fitsFrom(photo));
            }
            for (int what = -1; what < 7; what++) {
                due("best", disc.best(what), model.best(what));
                due("spin", disc.spin(what), model.spin(what));
                due("count", disc.count(what), model.count(what));
            }
            due("lands", disc.lands(), model.lands());
            for (int row = 0; row < 2; row++) {
                for (int what = 0; what < 6; what++) {
                    due("track", disc.track(row, what), model.track(row, what));
                }
            }
        }
    }

    public static void main(String[] args) {
        int runs = args.length > 0 ? Integer.parseInt(args[0]) : 300;
        int first = args.length > 1 ? Integer.parseInt(args[1]) : 0;
        for (int seed = first; seed < first + runs && wrong == 0; seed++) {
            new Run(seed).go();
        }
        System.out.println(wrong == 0 ? runs + " runs answered as the model" : wrong + " answers are not the model's");
        if (wrong != 0) {
            System.exit(1);
        }
    }
}
