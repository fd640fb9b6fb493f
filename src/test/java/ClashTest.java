/** Promises 16 to 22: clashes and slates. */
public final class ClashTest {
    private static final int MAX = Integer.MAX_VALUE;
    private static final int MIN = Integer.MIN_VALUE;

    private ClashTest() {
    }

    public static void main(String[] args) {
        promise16();
        promise17();
        promise18();
        promise19();
        promise20();
        promise21();
        promise22();
        Due.end("ClashTest");
    }

    /** BELLS 0, 1 at 10 and 2 at 20; EARS at 10 and 15; each HEARD everywhere, SECONDS 0 0 30 and 15 15 15. */
    private static OneBreath three() {
        OneBreath x = new OneBreath();
        x.bell(0, 10, 90);
        x.bell(108, 10, 90);
        x.bell(300, 20, 90);
        x.ear(10);
        x.ear(15);
        return x;
    }

    private static void promise16() {
        OneBreath x = three();
        Due.is("16: at 12", x.clashes(12, 0), 1 + 3);
        Due.is("16: the first", x.clashes(12, 1), 100);
        Due.is("16: without the church", x.clashes(5, 0), 1);
        Due.is("16: the first of these", x.clashes(5, 1), 201);
        x.change(1, 4, 3);
        Due.is("16: BREATH or less", x.clashes(12, 0), 4);
        x.change(1, 4, 4);
        Due.is("16: more than BREATH", x.clashes(12, 0), 1);
        x.change(1, 4, -3);
        Due.is("16: BREATH or less the other way", x.clashes(12, 0), 4);
        x.change(0, 6, 1);
        Due.is("16: a silent one", x.clashes(12, 0), 1);
        Due.is("16: the first is then", x.clashes(12, 1), 10201);
        x.change(2, 3, 5);
        Due.is("16: one that isn't HEARD", x.clashes(12, 0), 0);
        Due.is("16: none", x.clashes(12, 1), -1);
        OneBreath y = three();
        y.set(1, 30);
        Due.is("16: within a long BREATH", y.clashes(12, 0), 6);
        y.set(1, 0);
        Due.is("16: at once", y.clashes(12, 0), 4);
        y.ear(15);
        Due.is("16: two EARS at one SPOT", y.clashes(12, 0), 7);
        OneBreath z = new OneBreath();
        for (int i = 0; i < 8; i++) {
            z.bell(0, 50, 99);
        }
        for (int i = 0; i < 10; i++) {
            z.ear(50);
        }
        Due.is("16: the most", z.clashes(0, 0), 280);
        z.change(0, 6, 1);
        for (int i = 1; i < 6; i++) {
            z.change(i, 6, 1);
        }
        Due.is("16: the last two", z.clashes(0, 1), 60700);
        int[][] wrong = {{-1, 0}, {24, 0}, {0, -1}, {0, 2}, {MAX, 0}, {0, MIN}};
        for (int[] w : wrong) {
            Due.refuses("16: clashes", ValleyTest::village, Due.BEYOND, o -> o.clashes(w[0], w[1]));
        }
    }

    private static void promise17() {
        OneBreath x = three();
        Due.is("17: clash(0, 12)", x.clash(0, 12), 3);
        Due.is("17: clash(1, 12)", x.clash(1, 12), 3);
        Due.is("17: clash(2, 12)", x.clash(2, 12), 2);
        Due.is("17: clash(1, 5)", x.clash(1, 5), 0);
        Due.is("17: clash(0, 5)", x.clash(0, 5), 1);
        x.change(0, 6, 1);
        Due.is("17: a silent one", x.clash(0, 12), 0);
        Due.is("17: without it", x.clash(2, 12), 1);
        int[][] wrong = {{-1, 0}, {3, 0}, {0, -1}, {0, 24}, {MAX, 0}, {0, MIN}};
        for (int[] w : wrong) {
            Due.refuses("17: clash", ValleyTest::village, Due.BEYOND, o -> o.clash(w[0], w[1]));
        }
    }

    private static void promise18() {
        OneBreath x = three();
        Due.is("18: the least HOUR of several", x.quiet(0), 0);
        Due.is("18: with so many", x.quiet(1), 1);
        x.change(0, 6, 1);
        Due.is("18: two that strike together by day", x.quiet(1), 0);
        OneBreath y = new OneBreath();
        y.bell(0, 10, 90);
        y.bell(600, 10, 90);
        y.ear(10);
        y.ear(20);
        Due.is("18: the HOUR at which one is still", y.quiet(0), 0);
        y.bell(607, 10, 90);
        y.bell(400, 10, 90);
        y.bell(0, 10, 90);
        Due.is("18: 5 BELLS, one of them still at 0 to 5, 7 and 23", y.quiet(0), 0);
        Due.is("18: 6 pairs at 2 EARS", y.quiet(1), 12);
        y.bell(623, 10, 90);
        y.bell(623, 10, 90);
        Due.is("18: 5 of 7 at 23", y.quiet(0), 23);
        Due.is("18: with so many", y.quiet(1), 12);
        Due.is("18: as clashes() tells", y.clashes(23, 0), 12);
        OneBreath still = new OneBreath();
        still.bell(0, 10, 90);
        still.bell(601, 10, 90);
        still.ear(10);
        Due.is("18: at 1", still.quiet(0), 1);
        Due.is("18: at 1 again", still.quiet(0), 1);
        still.bell(0, 10, 90);
        Due.is("18: one at 1", still.quiet(1), 1);
        still.bell(400, 10, 90);
        Due.is("18: one at 1, still", still.quiet(1), 1);
        OneBreath z = new OneBreath();
        Due.is("18: without BELLS", z.quiet(0), 0);
        Due.is("18: none", z.quiet(1), 0);
        for (int what : new int[] {-1, 2, MAX, MIN}) {
            Due.refuses("18: quiet", ValleyTest::village, Due.BEYOND, o -> o.quiet(what));
        }
    }

    private static void promise19() {
        OneBreath x = three();
        Due.is("19: apart(0, 1, 12)", x.apart(0, 1, 12), 4);
        Due.is("19: apart(0, 2, 12)", x.apart(0, 2, 12), 4);
        Due.is("19: apart(2, 0, 12)", x.apart(2, 0, 12), 34);
        x.set(1, 10);
        Due.is("19: by BREATH", x.apart(2, 0, 12), 41);
        x.change(0, 4, 700);
        Due.is("19: whatever OFFSETS are", x.apart(2, 0, 12), 41);
        x.change(0, 3, 0);
        Due.is("19: not HEARD", x.apart(2, 0, 12), Due.NONE);
        Due.is("19: doesn't strike", x.apart(2, 1, 5), Due.NONE);
        x.change(2, 3, 6);
        Due.is("19: only at one EAR", x.apart(2, 1, 12), 11);
        x.set(1, 0);
        x.change(2, 2, 99);
        x.change(2, 3, 99);
        x.ear(90);
        Due.is("19: below 0", x.apart(1, 2, 12), 1 + 3 * 80 - 3 * 9);
        x.set(0, 5);
        Due.is("19: with the WIND", x.apart(1, 2, 12), 1 + 2 * 80 - 4 * 9);
        int[][] wrong = {{-1, 0, 0}, {3, 0, 0}, {0, -1, 0}, {0, 3, 0}, {0, 1, -1}, {0, 1, 24}, {1, 1, 0}, {MAX, MIN, 0}};
        for (int[] w : wrong) {
            Due.refuses("19: apart", ValleyTest::village, Due.BEYOND, o -> o.apart(w[0], w[1], w[2]));
        }
        Due.is("19: BEYOND ahead of NONE", new OneBreath().apart(0, 0, 0), Due.BEYOND);
        Due.refuses("19: apart", ClashTest::apartOnly, Due.NONE, o -> o.apart(0, 1, 12));
    }

    private static OneBreath apartOnly() {
        OneBreath x = new OneBreath();
        x.bell(0, 0, 9);
        x.bell(0, 99, 9);
        x.ear(0);
        x.ear(99);
        return x;
    }

    private static void promise20() {
        OneBreath x = three();
        slates(x, 12, new int[] {-60, -56, -52}, new int[] {52, 56, 60});
        slates(x, 5, new int[] {-60, MIN, -56}, new int[] {56, MIN, 60});
        x.change(0, 4, 1);
        slates(x, 12, new int[] {-22, -60, -56}, new int[] {61, 23, 27});
        x.change(1, 4, 900);
        x.change(2, 4, -900);
        slates(x, 12, new int[] {-59, 840, -960}, new int[] {61, 960, -840});
        x.change(1, 4, 0);
        x.change(2, 4, 0);
        x.change(0, 4, 0);
        x.set(2, 4);
        slates(x, 12, new int[] {-4, 0, 4}, new int[] {-4, 0, 4});
        x.set(2, 3);
        Due.is("20: no slate", x.slate(0, 12, 0), Due.NONE);
        Due.is("20: no slate", x.slate(0, 12, 1), Due.NONE);
        Due.is("20: STATE ahead of NONE", x.slate(1, 5, 0), Due.STATE);
        OneBreath y = three();
        y.set(0, 5);
        // SECONDS: 0 0 40 at EAR 0 and 10 10 20 at EAR 1.
        slates(y, 12, new int[] {-60, -56, -60}, new int[] {56, 60, 60});
        y.change(2, 4, -1);
        slates(y, 12, new int[] {-17, -13, -61}, new int[] {56, 60, 12});
        int[][] wrong = {{-1, 0, 0}, {3, 0, 0}, {0, -1, 0}, {0, 24, 0}, {0, 0, -1}, {0, 0, 2}, {MAX, MIN, 0}};
        for (int[] w : wrong) {
            Due.refuses("20: slate", ValleyTest::village, Due.BEYOND, o -> o.slate(w[0], w[1], w[2]));
        }
        Due.refuses("20: slate", ClashTest::tight, Due.STATE, o -> o.slate(1, 5, 0));
        Due.refuses("20: slate", ClashTest::tight, Due.NONE, o -> o.slate(1, 12, 0));
        Due.refuses("20: slate", ClashTest::tight, Due.BEYOND, o -> o.slate(1, 5, 2));
    }

    private static OneBreath tight() {
        OneBreath x = three();
        x.set(2, 3);
        return x;
    }

    private static void slates(OneBreath x, int hour, int[] earliest, int[] latest) {
        for (int bell = 0; bell < earliest.length; bell++) {
            boolean still = earliest[bell] == MIN;
            Due.is("20: EARLIEST of " + bell, x.slate(bell, hour, 0), still ? Due.STATE : earliest[bell]);
            Due.is("20: LATEST of " + bell, x.slate(bell, hour, 1), still ? Due.STATE : latest[bell]);
        }
    }

    private static void promise21() {
        OneBreath x = three();
        Due.is("21: 8 seconds, both ways", x.least(12), 4);
        Due.is("21: 4 seconds", x.least(5), 2);
        x.set(2, 0);
        Due.is("21: whatever BOUND is", x.least(12), 4);
        x.set(1, 4);
        Due.is("21: 10 seconds", x.least(12), 5);
        x.change(1, 4, 1);
        x.change(2, 4, 1);
        Due.is("21: 9 seconds, rounded up", x.least(12), 5);
        x.change(1, 4, 900);
        x.change(0, 4, -900);
        Due.is("21: far apart", x.least(12), 0);
        Due.is("21: without BELLS", new OneBreath().least(0), 0);
        OneBreath y = three();
        y.change(2, 4, -1);
        y.change(0, 4, 7);
        // ORDER 2, 1, 0: 34 and 4 seconds.
        Due.is("21: by the ORDER", y.least(12), 17);
        for (int hour : new int[] {-1, 24, MAX, MIN}) {
            Due.refuses("21: least", ValleyTest::village, Due.BEYOND, o -> o.least(hour));
        }
    }

    private static void promise22() {
        OneBreath x = three();
        Due.is("22: hang(5)", x.hang(5), 2);
        offsets(x, -60, 0, -56);
        Due.is("22: what strikes alone", x.hang(5), 2);
        offsets(x, -120, 0, -116);
        x.change(0, 4, -900);
        x.change(1, 4, -880);
        x.change(2, 4, 900);
        Due.is("22: held within", x.hang(12), 2);
        offsets(x, -900, -900, 840);
        OneBreath y = three();
        y.set(2, 4);
        Due.is("22: but for one that is as it was", y.hang(12), 2);
        offsets(y, -4, 0, 4);
        Due.is("22: no CLASH then", y.clashes(12, 0), 0);
        y.set(2, 0);
        Due.is("22: nothing to change", y.hang(12), 0);
        Due.is("22: without BELLS", new OneBreath().hang(0), 0);
        for (int hour : new int[] {-1, 24, MAX, MIN}) {
            Due.refuses("22: hang", ValleyTest::village, Due.BEYOND, o -> o.hang(hour));
        }
        Due.refuses("22: hang", ClashTest::tight, Due.NONE, o -> o.hang(12));
    }

    private static void offsets(OneBreath x, int... due) {
        for (int bell = 0; bell < due.length; bell++) {
            Due.is("22: OFFSET of " + bell, x.ofBell(bell, 4), due[bell]);
        }
    }
}
