/** Promises 23 to 31: silence, winds, cows, a new one, days. */
public final class TrialTest {
    private static final int MAX = Integer.MAX_VALUE;
    private static final int MIN = Integer.MIN_VALUE;

    private TrialTest() {
    }

    public static void main(String[] args) {
        promise23();
        promise24();
        promise25();
        promise26();
        promise27();
        promise28();
        promise29();
        promise30();
        promise31();
        Due.end("TrialTest");
    }

    /** n BELLS and an EAR, all at SPOT 50. */
    private static OneBreath heap(int n) {
        OneBreath x = new OneBreath();
        for (int i = 0; i < n; i++) {
            x.bell(0, 50, 90);
        }
        x.ear(50);
        return x;
    }

    private static void promise23() {
        OneBreath x = heap(3);
        silences(x, 1 + 2, 2);
        x.change(0, 5, 5);
        silences(x, 2 + 4, 2);
        x.change(1, 5, 3);
        x.change(2, 5, 2);
        silences(x, 2 + 4, 5);
        x.change(1, 4, 100);
        silences(x, 4, 2);
        x.change(2, 5, 5);
        silences(x, 1, 5);
        x.change(0, 6, 1);
        silences(x, 0, 0);
        OneBreath y = heap(3);
        y.change(0, 4, -3);
        y.change(2, 4, 3);
        silences(y, 2, 1);
        y.change(1, 5, 2);
        silences(y, 2, 2);
        y.change(1, 5, 3);
        silences(y, 1 + 4, 2);
        OneBreath z = heap(8);
        for (int i = 0; i < 8; i++) {
            z.change(i, 5, 0);
        }
        silences(z, 127, 0);
        z.change(3, 5, 1);
        silences(z, 255 - 8, 0);
        for (int i = 0; i < 8; i++) {
            z.change(i, 4, 10 * i);
        }
        silences(z, 0, 0);
        silences(new OneBreath(), 0, 0);
        int[][] wrong = {{-1, 0}, {24, 0}, {0, -1}, {0, 2}, {MAX, 0}, {0, MIN}};
        for (int[] w : wrong) {
            Due.refuses("23: silence", ValleyTest::village, Due.BEYOND, o -> o.silence(w[0], w[1]));
        }
    }

    private static void silences(OneBreath x, int set, int ranks) {
        Due.is("23: the set", x.silence(12, 0), set);
        Due.is("23: RANKS together", x.silence(12, 1), ranks);
    }

    /** SECONDS at EAR 50 of BELLS at 40 and 60: 30 - 2 * WIND, and OFFSET, 30 + 2 * WIND. */
    private static OneBreath pair(int offset) {
        OneBreath x = new OneBreath();
        x.bell(0, 40, 90);
        x.bell(100, 60, 90);
        x.ear(50);
        x.change(1, 4, offset);
        return x;
    }

    private static void promise24() {
        Due.is("24: of BREATH 3", pair(0).winds(12), 0b11111011111);
        OneBreath x = pair(0);
        x.set(1, 4);
        Due.is("24: of BREATH 4", x.winds(12), 0b11110001111);
        x.set(1, 0);
        Due.is("24: of BREATH 0", x.winds(12), 0b11111011111);
        Due.is("24: one that doesn't strike", x.winds(5), 2047);
        x.change(1, 4, 12);
        Due.is("24: later by 12", x.winds(12), 0b11111111011);
        x.set(0, -3);
        Due.is("24: whatever WIND is", x.winds(12), 0b11111111011);
        x.change(1, 4, 20);
        Due.is("24: later by 20", x.winds(12), 0b11111111110);
        x.change(1, 4, -20);
        Due.is("24: earlier by 20", x.winds(12), 0b01111111111);
        x.change(1, 4, 12);
        Due.is("24: WIND stays", x.count(3), -3);
        x.change(0, 3, 13);
        Due.is("24: not HEARD against -3", x.winds(12), 2047);
        x.change(0, 3, 14);
        Due.is("24: HEARD against -3", x.winds(12), 0b11111111011);
        Due.is("24: without BELLS", new OneBreath().winds(0), 2047);
        for (int hour : new int[] {-1, 24, MAX, MIN}) {
            Due.refuses("24: winds", ValleyTest::village, Due.BEYOND, o -> o.winds(hour));
        }
    }

    private static void promise25() {
        OneBreath x = heap(2);
        holdings(x, 0, -4, 0);
        x.change(1, 4, 1);
        holdings(x, 0, -3, 0);
        x.change(1, 4, -1);
        holdings(x, 0, 3, 0);
        x.change(1, 4, 0);
        x.set(2, 3);
        holdings(x, 0, 0, 11);
        x.set(2, 4);
        holdings(x, 1, -4, 0);
        x.change(0, 4, 899);
        x.change(1, 4, 900);
        holdings(x, 1, 3, 0);
        holdings(x, 0, -3, 0);
        x.change(0, 6, 1);
        holdings(x, 1, 0, 0);
        holdings(x, 0, 0, 0);
        // 4 * WIND apart: in WIND -5 to 5 the other one is 20 .. -20 seconds behind.
        OneBreath y = pair(0);
        y.set(2, 300);
        holdings(y, 0, -24, 0);
        // With less, each shift meets one or two WINDS; 0 meets but WIND 0.
        y.set(2, 23);
        holdings(y, 0, 0, 1);
        y.set(1, 0);
        holdings(y, 0, -1, 0);
        y.change(1, 4, 2);
        holdings(y, 0, 0, 0);
        OneBreath z = heap(2);
        z.set(2, 300);
        z.set(1, 30);
        z.change(0, 4, -900);
        z.change(1, 4, -900);
        holdings(z, 0, -31, 0);
        // Only at one EAR: BELL 0 there at once, BELL 1 behind a WAY of 30 at WIND 0, 20 to 40 in all.
        OneBreath u = new OneBreath();
        u.bell(0, 50, 90);
        u.bell(0, 60, 90);
        u.ear(50);
        u.change(0, 4, 25);
        holdings(u, 0, -9, 0);
        holdings(u, 1, 9, 0);
        holdsAtTheEdge();
        int[][] wrong = {{-1, 0, 0}, {3, 0, 0}, {0, -1, 0}, {0, 24, 0}, {0, 0, -1}, {0, 0, 2}, {MAX, MIN, 0}};
        for (int[] w : wrong) {
            Due.refuses("25: holds", ValleyTest::village, Due.BEYOND, o -> o.holds(w[0], w[1], w[2]));
        }
    }

    /** BELLS 1 to 5 together clash with shifts -299 + 2 * WIND to 305 + 2 * WIND of BELL 0. */
    private static void holdsAtTheEdge() {
        OneBreath x = new OneBreath();
        x.bell(0, 50, 90);
        int[] offsets = {-240, -118, 3, 124, 245};
        for (int i = 1; i <= 5; i++) {
            x.bell(0, 60, 90);
            x.change(i, 4, offsets[i - 1]);
        }
        x.ear(50);
        x.ear(55);
        x.ear(60);
        x.set(1, 30);
        x.set(2, 300);
        holdings(x, 0, -299, 6);
        x.change(1, 4, -239);
        holdings(x, 0, -300, 5);
        x.change(1, 4, -240);
        holdings(x, 0, -299, 6);
    }

    private static void holdings(OneBreath x, int bell, int shift, int winds) {
        Due.is("25: the shift", x.holds(bell, 12, 0), shift);
        Due.is("25: in how many WINDS", x.holds(bell, 12, 1), winds);
    }

    private static void promise26() {
        // A COW at 50 with m 5, an EAR at 50, a BELL there that is HEARD at 0.
        OneBreath x = new OneBreath();
        x.bell(0, 50, 90);
        x.bell(305, 50, 90);
        x.ear(50);
        chances(x, 1, 3, 11);
        x.set(1, 6);
        chances(x, 1, 5, 11);
        x.set(1, 15);
        chances(x, 1, 1, 1);
        x.change(0, 4, 50);
        chances(x, 1, 0, 1);
        x.change(0, 4, 0);
        x.change(1, 3, 2);
        chances(x, 1, 3, 11);
        x.change(1, 3, 90);
        x.change(1, 4, -12);
        x.set(1, 3);
        x.change(1, 3, 90);
        // 12 seconds early: from 3, 4, 5 SPOTS away on both sides.
        chances(x, 1, 6, 11);
        x.change(1, 6, 1);
        chances(x, 1, 0, 1);
        OneBreath y = new OneBreath();
        y.bell(0, 0, 90);
        y.bell(303, 0, 90);
        y.bell(603, 99, 90);
        y.ear(0);
        y.ear(99);
        chances(y, 1, 1, 2);
        chances(y, 2, 0, 1);
        y.change(0, 2, 99);
        chances(y, 2, 1, 2);
        y.change(2, 2, 98);
        chances(y, 2, 2, 5);
        Due.is("26: a STRAY at its m", y.chance(2, 3, 0), 0);
        Due.is("26: a STRAY at its m", y.chance(2, 3, 1), 1);
        y.bell(300, 99, 90);
        y.change(2, 6, 1);
        y.change(0, 3, 0);
        chances(y, 3, 0, 1);
        y.change(0, 3, 90);
        chances(y, 3, 1, 1);
        int[][] wrong = {{-1, 0, 0}, {3, 0, 0}, {1, -1, 0}, {1, 24, 0}, {1, 0, -1}, {1, 0, 2}, {0, 24, 0}, {MAX, MIN, 0}};
        for (int[] w : wrong) {
            Due.refuses("26: chance", ValleyTest::village, Due.BEYOND, o -> o.chance(w[0], w[1], w[2]));
        }
        Due.refuses("26: chance", ValleyTest::village, Due.KIND, o -> o.chance(0, 12, 0));
        Due.refuses("26: chance", ValleyTest::village, Due.KIND, o -> o.chance(2, 12, 1));
    }

    private static void chances(OneBreath x, int bell, int above, int below) {
        Due.is("26: above the line", x.chance(bell, 12, 0), above);
        Due.is("26: below the line", x.chance(bell, 12, 1), below);
    }

    private static void promise27() {
        OneBreath x = new OneBreath();
        x.bell(100, 50, 90);
        x.ear(40);
        Due.is("27: far from each other", x.hangs(60, 12), 99);
        x.change(0, 4, 30);
        Due.is("27: at 60, FAR 20", x.hangs(60, 12), 20);
        Due.is("27: at 20, FAR 20", x.hangs(20, 12), 20);
        Due.is("27: at 61, within BREATH", x.hangs(61, 12), 21);
        Due.is("27: at 62, beyond it", x.hangs(62, 12), 99);
        Due.is("27: one that doesn't strike", x.hangs(60, 5), 99);
        x.hill(50, 3);
        Due.is("27: behind a HILL", x.hangs(60, 12), 35);
        x.hill(50, 0);
        x.set(0, -5);
        Due.is("27: in the WIND, SECONDS 50 and 40", x.hangs(60, 12), 99);
        Due.is("27: in the WIND, 50 and 50", x.hangs(65, 12), 20);
        x.set(0, 0);
        Due.text(x, 0, "1");
        Due.is("27: not even with 0", x.hangs(60, 12), Due.NONE);
        Due.is("27: where nothing clashes", x.hangs(62, 12), 99);
        Due.text(x, 0, "k|!(l=50)");
        Due.is("27: with one LOUD alone", x.hangs(60, 12), 50);
        Due.text(x, 0, "k|l<30");
        Due.is("27: too quiet ones clash", x.hangs(60, 12), 99);
        Due.text(x, 0, "k|l>30");
        Due.is("27: the greatest that doesn't", x.hangs(60, 12), 30);
        OneBreath y = heap(8);
        Due.is("27: though there are 8", y.hangs(50, 12), 0);
        Due.is("27: without BELLS", new OneBreath().hangs(0, 0), 99);
        int[][] wrong = {{-1, 0}, {100, 0}, {0, -1}, {0, 24}, {MAX, 0}, {0, MIN}};
        for (int[] w : wrong) {
            Due.refuses("27: hangs", ValleyTest::village, Due.BEYOND, o -> o.hangs(w[0], w[1]));
        }
        Due.refuses("27: hangs", TrialTest::loudEverywhere, Due.NONE, o -> o.hangs(50, 12));
    }

    private static OneBreath loudEverywhere() {
        OneBreath x = heap(1);
        Due.text(x, 0, "1");
        return x;
    }

    private static void promise28() {
        OneBreath x = heap(1);
        places(x, 0, 99);
        x.set(1, 30);
        x.change(0, 4, 135);
        // SECONDS 150, 135, 120, 105 from SPOTS 0, 5, 10, 15 are within BREATH.
        places(x, 20, 99);
        OneBreath y = new OneBreath();
        y.bell(0, 0, 99);
        y.ear(0);
        y.set(1, 30);
        places(y, 15, 99);
        Due.text(y, 0, "100-d");
        places(y, 15, 99);
        for (int i = 1; i < 7; i++) {
            y.bell(0, 0, 99);
            y.change(i, 4, 50 * i);
        }
        Due.text(y, 0, "100-d-(l>(60+(d=45)+(d=70)))*0");
        Due.is("28: no place", y.place(12, 0), Due.NONE);
        Due.text(y, 0, "d<1|l>(60+(d=45)+(d=70))");
        places(y, 45, 61);
        Due.text(y, 0, "l");
        places(y, 0, 0);
        int[][] wrong = {{-1, 0}, {24, 0}, {0, -1}, {0, 2}, {MAX, 0}, {0, MIN}};
        for (int[] w : wrong) {
            Due.refuses("28: place", ValleyTest::village, Due.BEYOND, o -> o.place(w[0], w[1]));
        }
        Due.refuses("28: place", TrialTest::noPlace, Due.NONE, o -> o.place(12, 1));
    }

    private static OneBreath noPlace() {
        OneBreath x = new OneBreath();
        for (int i = 0; i < 7; i++) {
            x.bell(0, 0, 99);
            x.change(i, 4, 50 * i);
        }
        x.ear(0);
        x.set(1, 30);
        Due.text(x, 0, "1");
        return x;
    }

    private static void places(OneBreath x, int spot, int loud) {
        Due.is("28: the SPOT", x.place(12, 0), spot);
        Due.is("28: LOUD there", x.place(12, 1), loud);
    }

    private static int drawn(int z) {
        return z * 1103515245 + 12345;
    }

    private static void promise29() {
        OneBreath x = new OneBreath();
        x.bell(0, 10, 1);
        x.bell(300, 50, 1);
        x.bell(100, 20, 1);
        x.bell(607, 60, 1);
        x.change(3, 6, 1);
        int z1 = drawn(1);
        int z2 = drawn(z1);
        int cow = 50 + (z1 >>> 8) % 7 - 3;
        int stray = 60 + (z2 >>> 8) % 7 - 3;
        Due.is("29: days(1)", x.days(1), 10 + 20 + cow + stray);
        Due.is("29: the COW", x.ofBell(1, 2), cow);
        Due.is("29: the STRAY, though SILENT", x.ofBell(3, 2), stray);
        Due.is("29: z", x.count(7), z2);
        int z = z2;
        for (int day = 0; day < 60; day++) {
            z = drawn(z);
            cow = Math.max(0, Math.min(99, cow + (z >>> 8) % 7 - 3));
            z = drawn(z);
            stray = Math.max(0, Math.min(99, stray + (z >>> 8) % 7 - 3));
        }
        Due.is("29: days(60)", x.days(60), 30 + cow + stray);
        Due.is("29: z", x.count(7), z);
        Due.text(x, 1, "s*2+m");
        Due.is("29: held", x.days(10), 30 + (cow == 0 ? 0 : 99) + 99);
        is("29: draws whether they matter or not", x.count(7) == z, false);
        Due.text(x, 1, "0-s");
        Due.is("29: held", x.days(1), 30);
        OneBreath y = new OneBreath();
        Due.is("29: without BELLS", y.days(5), 0);
        y.bell(0, 44, 0);
        Due.is("29: without COWS", y.days(5), 44);
        Due.is("29: no draw", y.count(7), 1);
        for (int n : new int[] {0, -1, 61, MAX, MIN}) {
            Due.refuses("29: days", ValleyTest::village, Due.BEYOND, o -> o.days(n));
        }
    }

    private static void is(String what, boolean got, boolean want) {
        Due.is(what, got ? 1 : 0, want ? 1 : 0);
    }

    private static void promise30() {
        OneBreath x = ValleyTest.village();
        x.bell(604, 70, 5);
        x.seed(77);
        String before = Due.seen(x);
        int[] ahead = new int[61];
        for (int n = 0; n <= 60; n += 6) {
            ahead[n] = x.then(n, 3);
            Due.is("30: what isn't a COW stays", x.then(n, 0), 20);
        }
        Due.is("30: AHEAD by 0", ahead[0], 70);
        Due.is("30: nothing changes", Due.seen(x), before);
        for (int n = 6; n <= 60; n += 6) {
            x.days(6);
            Due.is("30: as so many would go by", x.ofBell(3, 2), ahead[n]);
        }
        int[][] wrong = {{-1, 0}, {61, 0}, {0, -1}, {0, 3}, {MAX, 0}, {0, MIN}};
        for (int[] w : wrong) {
            Due.refuses("30: then", ValleyTest::village, Due.BEYOND, o -> o.then(w[0], w[1]));
        }
        is("30: it goes somewhere", ahead[60] != 70, true);
    }

    private static void promise31() {
        OneBreath x = new OneBreath();
        Due.is("31: seed(5)", x.seed(5), 1);
        Due.is("31: seed(MIN)", x.seed(MIN), 5);
        Due.is("31: count(7)", x.count(7), MIN);
        Due.is("31: seed(BEYOND)", x.seed(Due.BEYOND), MIN);
        Due.is("31: no ERROR", x.seed(-1), Due.BEYOND);
        Due.is("31: told(1)", x.told(1), 0);
        x.bell(300, 50, 50);
        x.seed(9);
        x.days(1);
        Due.is("31: the next draw", x.ofBell(0, 2), 47 + (drawn(9) >>> 8) % 7);
    }
}
