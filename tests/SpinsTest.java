/** The boundaries of "Terms", SPINS: angles that wrap around, errors by a degree, the spin of several. */
public final class SpinsTest {
    /** Photos at the times 0, 1, 2 and so on: an angle and its error in turn. */
    private static DiscArcs wide(int... anglesAndErrors) {
        DiscArcs disc = new DiscArcs();
        for (int i = 0; i < anglesAndErrors.length; i += 2) {
            disc.addPhoto(i / 2, 0, 0, 0);
            disc.setAngle(i / 2, anglesAndErrors[i], anglesAndErrors[i + 1]);
        }
        return disc;
    }

    /** Two photos without errors of their angles: a time and an angle each. */
    private static DiscArcs two(int time, int angle, int later, int laterAngle) {
        DiscArcs disc = new DiscArcs();
        disc.addPhoto(time, 0, 0, 0);
        disc.addPhoto(later, 0, 0, 0);
        disc.setAngle(0, angle, 0);
        disc.setAngle(1, laterAngle, 0);
        return disc;
    }

    private static void asFarAsTheError() {
        Check.says("if the difference of both angles, the shorter way round, is at most the error of the angle");
        // An angle, its error, the first and the last angle that fit, going up.
        int[][] ranges = {{0, 0, 0, 0}, {359, 0, 359, 359}, {180, 0, 180, 180}, {0, 1, 359, 1}, {359, 1, 358, 0},
            {1, 1, 0, 2}, {0, 60, 300, 60}, {180, 60, 120, 240}, {30, 60, 330, 90}, {330, 60, 270, 30},
            {60, 60, 0, 120}, {59, 60, 359, 119}, {61, 60, 1, 121}, {299, 60, 239, 359}, {300, 60, 240, 0}};
        for (int[] r : ranges) {
            DiscArcs disc = wide(r[0], r[1]);
            String name = r[0] + " by " + r[1] + " from ";
            Check.due(name + r[0], disc.fits(0, r[0]), 1);
            Check.due(name + r[2], disc.fits(0, r[2]), 1);
            Check.due(name + r[3], disc.fits(0, r[3]), 1);
            Check.due(name + "just below", disc.fits(0, (r[2] + 359) % 360), 0);
            Check.due(name + "just above", disc.fits(0, (r[3] + 1) % 360), 0);
            Check.due(name + "the other side", disc.fits(0, (r[0] + 180) % 360), 0);
        }
        int fitting = 0;
        DiscArcs whole = wide(200, 60);
        for (int beginning = 0; beginning < 360; beginning++) {
            fitting += whole.fits(0, beginning);
        }
        Check.due("all beginnings by 60", fitting, 121);
    }

    private static void anglesThatWrapAround() {
        Check.says("Its angle at the time t is beginning + spin * t, modulo 360 (0 to 359).");
        // A time, a spin, a beginning, and the angle that is due.
        int[][] turned = {{0, 180, 0, 0}, {0, -179, 359, 359}, {1, 180, 180, 0}, {1, 180, 179, 359}, {1, 1, 359, 0},
            {1, -1, 0, 359}, {1, -179, 0, 181}, {1, 179, 359, 178}, {2, 180, 5, 5}, {99, 180, 0, 180},
            {99, 180, 359, 179}, {99, -179, 0, 279}, {99, -179, 81, 0}, {99, 179, 0, 81}, {99, -1, 98, 359},
            {99, -1, 99, 0}, {99, 40, 0, 0}};
        for (int[] t : turned) {
            DiscArcs disc = new DiscArcs();
            disc.addPhoto(t[0], 0, 0, 0);
            String name = t[0] + " times " + t[1] + " from " + t[2];
            disc.setAngle(0, t[3], 0);
            Check.due(name, disc.fits(t[1], t[2]), 1);
            disc.setAngle(0, (t[3] + 1) % 360, 0);
            Check.due(name + ", one more", disc.fits(t[1], t[2]), 0);
            disc.setAngle(0, (t[3] + 359) % 360, 0);
            Check.due(name + ", one less", disc.fits(t[1], t[2]), 0);
        }
        Check.says("Returns the angle of the spin at this time");
        angleAt("the spin 180", Check.angles(0, 180), 0, 180, 180);
        angleAt("the spin 180 from 359", Check.angles(359, 179), 359, 179, 179);
        angleAt("the spin -179", Check.angles(0, 181), 0, 181, 279);
        angleAt("the spin 179", Check.angles(0, 179), 0, 179, 81);
        angleAt("the spin -1", Check.angles(0, 359), 0, 359, 261);
        angleAt("the spin 1 from 359", Check.angles(359, 0), 359, 0, 98);
        angleAt("the spin 0", Check.angles(359), 359, 359, 359);
    }

    private static void angleAt(String what, DiscArcs disc, int atFirst, int atOne, int atLast) {
        Check.due(what + " at 0", disc.angleAt(0), atFirst);
        Check.due(what + " at 1", disc.angleAt(1), atOne);
        Check.due(what + " at 99", disc.angleAt(99), atLast);
    }

    private static void spinsFromTheLeastToTheMost() {
        Check.says("A spin is a whole number of degrees for a unit of time, from -179 to 180");
        int[][] turns = {{0, 0}, {1, 1}, {359, -1}, {90, 90}, {270, -90}, {179, 179}, {180, 180}, {181, -179},
            {182, -178}};
        for (int[] t : turns) {
            int[] beginnings = {0, 1, 179, 180, 359};
            for (int b : beginnings) {
                DiscArcs disc = Check.angles(b, (b + t[0]) % 360);
                Check.due("from " + b + " by " + t[0], Check.spin(disc), t[1] + " " + b + " 2 11");
            }
        }
        Check.says("0 for the spin plus 200");
        Check.due("the most", Check.angles(0, 180).spin(0), 380);
        Check.due("the least", Check.angles(0, 181).spin(0), 21);
        Check.due("none", Check.angles(0, 0).spin(0), 200);
        Check.due("ten", Check.spin(Check.angles(300, 320, 340, 0, 20, 40, 60, 80, 100, 120)),
                "20 300 10 1111111111");
        Check.due("one of ten", Check.spin(wide(7, 0)), "0 7 1 1");
        DiscArcs last = new DiscArcs();
        last.addPhoto(99, 0, 0, 0);
        last.setAngle(0, 200, 0);
        Check.due("one at the last time", Check.spin(last), "0 200 1 1");
    }

    private static void theMost() {
        Check.says("The spin is the one that fits the most usable photos with angles");
        Check.due("three by 100 ahead of two by 0", Check.spin(Check.angles(0, 0, 200, 300)), "100 0 3 1101");
        Check.due("three by 180 ahead of two by 1", Check.spin(Check.angles(0, 180, 0, 1)), "180 0 3 111");
        Check.due("three by -179 ahead of two by 1", Check.spin(Check.angles(0, 181, 2, 90)), "-179 0 3 111");
        Check.due("two by 0, two by 100", Check.spin(Check.angles(0, 0, 31, 131)), "0 0 2 11");
        Check.due("by an error as far", Check.spin(wide(0, 0, 100, 0, 150, 50)), "100 0 3 111");
        Check.due("by an error less far", Check.spin(wide(0, 0, 100, 0, 150, 49)), "1 99 2 110");
    }

    private static void theLeastWithoutItsSign() {
        Check.says("of several the one that is the least without its sign");
        Check.due("30 or -150", Check.spin(two(0, 0, 2, 60)), "30 0 2 11");
        Check.due("-30 or 150", Check.spin(two(0, 0, 2, 300)), "-30 0 2 11");
        Check.due("89 or -91", Check.spin(two(0, 0, 2, 178)), "89 0 2 11");
        Check.due("-89 or 91", Check.spin(two(0, 0, 2, 182)), "-89 0 2 11");
        Check.due("1 of nine", Check.spin(two(0, 0, 99, 99)), "1 0 2 11");
        Check.due("-1 of nine", Check.spin(two(0, 0, 99, 261)), "-1 0 2 11");
        Check.due("within an error above", Check.spin(wide(0, 0, 10, 3)), "7 0 2 11");
        Check.due("within an error below", Check.spin(wide(0, 0, 350, 3)), "-7 0 2 11");
        Check.due("0 at the end of an error", Check.spin(wide(0, 0, 5, 5)), "0 0 2 11");
        Check.due("1 at the end of an error", Check.spin(wide(0, 0, 6, 5)), "1 0 2 11");
        Check.due("0 at the other end of an error", Check.spin(wide(0, 0, 355, 5)), "0 0 2 11");
        Check.due("-1 at the other end of an error", Check.spin(wide(0, 0, 354, 5)), "-1 0 2 11");
        Check.due("120 within 60", Check.spin(wide(0, 0, 180, 60)), "120 0 2 11");
        Check.says("then the one above 0");
        Check.due("90 or -90", Check.spin(two(0, 0, 2, 180)), "90 0 2 11");
        Check.due("90 or -90, from 359", Check.spin(two(0, 359, 2, 179)), "90 359 2 11");
        Check.due("60, 180 or -60", Check.spin(two(0, 0, 3, 180)), "60 0 2 11");
        Check.due("20 or -20", Check.spin(two(0, 0, 99, 180)), "20 0 2 11");
        Check.due("179 or -179", Check.spin(wide(0, 0, 180, 1)), "179 0 2 11");
        Check.due("1 or -1, with other photos", Check.spin(oneOrMinusOne()), "1 0 2 11");
        Check.due("2 or -1", Check.spin(wide(0, 0, 359, 0, 4, 0)), "-1 0 2 11");
    }

    /** At the times 0 and 1 the spin 1 fits two, at 0 and 3 the spin -1; there is none that fits three. */
    private static DiscArcs oneOrMinusOne() {
        DiscArcs disc = Check.angles(0, 1);
        disc.addPhoto(3, 0, 0, 0);
        disc.setAngle(2, 357, 0);
        return disc;
    }

    private static void theLeastBeginning() {
        Check.says("then the one with the least beginning.");
        // An angle, its error, and the least beginning of the spin 0.
        int[][] alone = {{0, 0, 0}, {359, 0, 359}, {5, 5, 0}, {6, 5, 1}, {4, 5, 0}, {0, 1, 0}, {359, 1, 0},
            {358, 1, 357}, {60, 60, 0}, {61, 60, 1}, {300, 60, 0}, {299, 60, 239}, {0, 60, 0}, {180, 60, 120}};
        for (int[] a : alone) {
            Check.due(a[0] + " by " + a[1], Check.spin(wide(a[0], a[1])), "0 " + a[2] + " 1 1");
        }
        Check.due("of both", Check.spin(wide(10, 9, 20, 9)), "0 11 2 11");
        Check.due("of both, one degree alone", Check.spin(wide(10, 5, 20, 5)), "0 15 2 11");
        Check.due("of both, across 0", Check.spin(wide(0, 9, 355, 9)), "0 0 2 11");
        Check.due("of both, up to 0", Check.spin(wide(350, 10, 355, 9)), "0 0 2 11");
        Check.due("of both, up to 359", Check.spin(wide(350, 9, 355, 9)), "0 346 2 11");
        Check.due("of both, from 0 on", Check.spin(wide(5, 5, 350, 10)), "0 0 2 11");
        Check.due("by a spin", Check.spin(wide(10, 5, 60, 5)), "40 15 2 11");
        Check.due("by a spin, of three", Check.spin(wide(10, 5, 60, 5, 100, 0)), "43 14 3 111");
        // An odd turn in two units of time: no spin fits both.
        Check.due("of the one or the other", Check.spin(two(0, 100, 2, 31)), "0 31 1 10");
        Check.due("of the other or the one", Check.spin(two(0, 20, 2, 31)), "0 20 1 1");
        Check.due("of the one at 0", Check.spin(two(0, 0, 2, 359)), "0 0 1 1");
    }

    private static void noSpin() {
        Check.says("NOT_POSSIBLE if there is no usable photo with an angle.");
        DiscArcs disc = Check.heights(0, 0);
        due(disc, Check.NOT_POSSIBLE, Check.NOT_POSSIBLE, Check.NONE, 0);
        disc.setAngle(1, 50, 0);
        due(disc, 200, 50, 1, 2);
        disc.setAside(1, true);
        due(disc, Check.NOT_POSSIBLE, Check.NOT_POSSIBLE, Check.NONE, 0);
        disc.setAngle(0, 70, 0);
        due(disc, 200, 70, Check.NONE, 1);
        disc.setAside(1, false);
        due(disc, 180, 30, 1, 3);
        disc.setAngle(1, 360, 0);
        due(disc, 200, 70, Check.NONE, 1);
        disc.remove(0);
        due(new DiscArcs(), Check.NOT_POSSIBLE, Check.NOT_POSSIBLE, Check.UNKNOWN, 0);
        Check.due("without the one that had one", disc.spin(0), Check.NOT_POSSIBLE);
    }

    private static void due(DiscArcs disc, int spin, int atTwo, int whetherOneFits, int marked) {
        Check.due("spin(0)", disc.spin(0), spin);
        Check.due("angleAt(2)", disc.angleAt(2), atTwo);
        Check.due("photo(1, 7)", disc.photo(1, 7), whetherOneFits);
        Check.due("count(2)", disc.count(2), marked);
    }

    private static void whetherItFits() {
        Check.says("7 for whether the spin fits it (1, otherwise 0; NONE without an angle, or if it is set aside)");
        DiscArcs disc = wide(0, 0, 100, 0, 200, 0, 301, 1, 42, 1);
        disc.addPhoto(9, 0, 0, 0);
        int[] want = {1, 1, 1, 1, 0, Check.NONE};
        for (int photo = 0; photo < want.length; photo++) {
            Check.due("photo(" + photo + ", 7)", disc.photo(photo, 7), want[photo]);
        }
        disc.setAngle(4, 41, 1);
        Check.due("as far as its error", disc.photo(4, 7), 1);
        disc.setAside(4, true);
        Check.due("one aside", disc.photo(4, 7), Check.NONE);
        disc.setAside(4, false);
        Check.due("one taken back", disc.photo(4, 7), 1);
        disc.setAngle(4, 360, 0);
        Check.due("one without an angle", disc.photo(4, 7), Check.NONE);
        Check.says("Returns how many usable photos with angles it fits");
        Check.due("the four", disc.fits(100, 0), 4);
        Check.due("the four from 1", disc.fits(100, 1), 1);
        disc.setAside(0, true);
        Check.due("three", disc.fits(100, 0), 3);
        Check.due("none", disc.fits(100, 50), 0);
        Check.due("of none", new DiscArcs().fits(0, 0), 0);
    }

    public static void main(String[] args) {
        asFarAsTheError();
        anglesThatWrapAround();
        spinsFromTheLeastToTheMost();
        theMost();
        theLeastWithoutItsSign();
        theLeastBeginning();
        noSpin();
        whetherItFits();
        Check.end();
    }
}
