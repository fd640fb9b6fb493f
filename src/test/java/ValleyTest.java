/** Promises 1 to 12: the valley, bells, ears. */
public final class ValleyTest {
    private static final int MAX = Integer.MAX_VALUE;
    private static final int MIN = Integer.MIN_VALUE;

    private ValleyTest() {
    }

    public static void main(String[] args) {
        promise1();
        promise2();
        promise3();
        promise4();
        promise5();
        promise6();
        promise7();
        promise8();
        promise9();
        promise10();
        promise11();
        promise12();
        Due.end("ValleyTest");
    }

    /** Three BELLS, two EARS, a HILL, a byte, a number that waits, a TRACE. */
    static OneBreath village() {
        OneBreath x = new OneBreath();
        x.bell(0, 20, 60);
        x.bell(303, 40, 70);
        x.bell(405, 60, 80);
        x.ear(30);
        x.ear(50);
        x.hill(45, 2);
        x.feed('l', 1);
        x.tell(5);
        x.voice(1, 3, 7);
        return x;
    }

    private static void promise1() {
        OneBreath x = new OneBreath();
        int[] counts = {0, 0, 0, 0, 0, 0, 0, 1};
        for (int what = 0; what < counts.length; what++) {
            Due.is("1: count(" + what + ")", x.count(what), counts[what]);
        }
        Due.is("1: WIND", x.set(0, 1), 0);
        Due.is("1: BREATH", x.set(1, 1), 3);
        Due.is("1: BOUND", x.set(2, 1), 60);
        for (int spot = 0; spot < 100; spot++) {
            Due.is("1: HILL", x.hill(spot, 5), 0);
        }
        for (int k = 1; k <= 5; k++) {
            Due.is("1: told", x.told(k), 0);
        }
        Due.is("1: CARRIES", x.law(0, 60, 7, 2, 3), 46);
        Due.is("1: GRAZES", x.law(1, 60, 6, 2, 3), 63);
        Due.is("1: THE TRACE", x.trace(0), Due.NONE);
        Due.is("1: IMAGE", x.restore(), Due.NONE);
        for (int sheet = 0; sheet < 4; sheet++) {
            Due.is("1: SHEET", x.ears(sheet), Due.NONE);
        }
        Due.is("1: BELLS", x.ofBell(0, 0), Due.BEYOND);
        Due.is("1: EARS", x.heard(0, 0), Due.BEYOND);
    }

    private static void promise2() {
        OneBreath x = new OneBreath();
        Due.is("2: hill(0, 9)", x.hill(0, 9), 0);
        Due.is("2: hill(0, 4)", x.hill(0, 4), 9);
        Due.is("2: hill(1, 2)", x.hill(1, 2), 0);
        Due.is("2: hill(99, 1)", x.hill(99, 1), 0);
        Due.is("2: hill(99, 0)", x.hill(99, 0), 1);
        Due.is("2: hill(0, 0)", x.hill(0, 0), 4);
        Due.is("2: hill(1, 0)", x.hill(1, 0), 2);
        int[][] wrong = {{-1, 0}, {100, 0}, {0, -1}, {0, 10}, {MAX, 0}, {MIN, 0}, {0, MAX}, {0, MIN}};
        for (int[] w : wrong) {
            Due.refuses("2: hill", ValleyTest::village, Due.BEYOND, o -> o.hill(w[0], w[1]));
        }
    }

    private static void promise3() {
        OneBreath x = new OneBreath();
        Due.is("3: set(0, -5)", x.set(0, -5), 0);
        Due.is("3: set(0, 5)", x.set(0, 5), -5);
        Due.is("3: set(1, 0)", x.set(1, 0), 3);
        Due.is("3: set(1, 30)", x.set(1, 30), 0);
        Due.is("3: set(2, 0)", x.set(2, 0), 60);
        Due.is("3: set(2, 300)", x.set(2, 300), 0);
        Due.is("3: set(0, 0)", x.set(0, 0), 5);
        Due.is("3: set(1, 0)", x.set(1, 0), 30);
        Due.is("3: set(2, 0)", x.set(2, 0), 300);
        int[][] wrong = {{0, -6}, {0, 6}, {1, -1}, {1, 31}, {2, -1}, {2, 301}, {-1, 0}, {3, 0}, {MAX, 0}, {MIN, 0}};
        for (int[] w : wrong) {
            Due.refuses("3: set", ValleyTest::village, Due.BEYOND, o -> o.set(w[0], w[1]));
        }
    }

    private static void promise4() {
        OneBreath x = new OneBreath();
        int[] kms = {0, 123, 200, 323, 400, 523, 623, 23};
        for (int i = 0; i < 8; i++) {
            Due.is("4: bell", x.bell(kms[i], i == 0 ? 0 : 99, i == 1 ? 0 : 99), i);
            Due.is("4: count(0)", x.count(0), i + 1);
            Due.is("4: KIND", x.ofBell(i, 0), kms[i] / 100);
            Due.is("4: m", x.ofBell(i, 1), kms[i] % 100);
        }
        Due.is("4: a ninth", x.bell(0, 0, 0), Due.FULL);
        Due.is("4: BEYOND ahead of FULL", x.bell(24, 0, 0), Due.BEYOND);
        Due.is("4: BEYOND ahead of FULL", x.bell(0, 100, 0), Due.BEYOND);
        Due.is("4: BEYOND ahead of FULL", x.bell(0, 0, -1), Due.BEYOND);
        Due.is("4: still 8", x.count(0), 8);
        int[][] wrong = {{-1, 0, 0}, {-100, 0, 0}, {-99, 0, 0}, {24, 0, 0}, {99, 0, 0}, {624, 0, 0}, {700, 0, 0},
            {MAX, 0, 0}, {MIN, 0, 0}, {0, -1, 0}, {0, 100, 0}, {0, 0, -1}, {0, 0, 100}, {0, MIN, 0}, {0, 0, MAX}};
        for (int[] w : wrong) {
            Due.refuses("4: bell", ValleyTest::village, Due.BEYOND, o -> o.bell(w[0], w[1], w[2]));
        }
        Due.refuses("4: bell", ValleyTest::fullValley, Due.FULL, o -> o.bell(0, 0, 0));
    }

    private static OneBreath fullValley() {
        OneBreath x = new OneBreath();
        for (int i = 0; i < 8; i++) {
            x.bell(100 * (i % 7), i, i);
        }
        for (int i = 0; i < 10; i++) {
            x.ear(i);
        }
        return x;
    }

    private static void promise5() {
        OneBreath x = new OneBreath();
        x.bell(623, 99, 98);
        int[] parts = {6, 23, 99, 98, 0, 1, 0};
        for (int what = 0; what < 7; what++) {
            Due.is("5: ofBell(0, " + what + ")", x.ofBell(0, what), parts[what]);
        }
        int[][] wrong = {{-1, 0}, {3, 0}, {0, -1}, {0, 7}, {MAX, 0}, {MIN, 0}, {0, MAX}, {0, MIN}};
        for (int[] w : wrong) {
            Due.refuses("5: ofBell", ValleyTest::village, Due.BEYOND, o -> o.ofBell(w[0], w[1]));
        }
    }

    private static void promise6() {
        OneBreath x = new OneBreath();
        x.bell(0, 7, 8);
        x.bell(0, 50, 50);
        int[] first = {0, 0, 7, 8, 0, 1, 0};
        int[] least = {0, 0, 0, 0, -900, 0, 0};
        int[] most = {0, 0, 99, 99, 900, 99, 1};
        for (int what = 2; what <= 6; what++) {
            Due.is("6: to the least", x.change(0, what, least[what]), first[what]);
            Due.is("6: to the most", x.change(0, what, most[what]), least[what]);
            Due.is("6: below the least", x.change(0, what, least[what] - 1), Due.BEYOND);
            Due.is("6: above the most", x.change(0, what, most[what] + 1), Due.BEYOND);
            Due.is("6: as it became", x.ofBell(0, what), most[what]);
        }
        int[] other = {0, 0, 50, 50, 0, 1, 0};
        for (int what = 0; what <= 6; what++) {
            Due.is("6: of the other one", x.ofBell(1, what), other[what]);
        }
        int[][] wrong = {{0, 0, 1}, {0, 1, 1}, {0, 7, 1}, {0, -1, 1}, {-1, 2, 1}, {3, 2, 1}, {MAX, 2, 1}, {0, MIN, 1},
            {0, 2, 100}, {0, 3, -1}, {0, 4, 901}, {0, 4, -901}, {0, 5, 100}, {0, 6, 2}, {0, 6, -1}, {0, 4, MIN}};
        for (int[] w : wrong) {
            Due.refuses("6: change", ValleyTest::village, Due.BEYOND, o -> o.change(w[0], w[1], w[2]));
        }
    }

    private static void promise7() {
        String[] of = {"0", "01", "02", "03", "014", "015", "036"};
        OneBreath x = new OneBreath();
        for (int kind = 0; kind < 7; kind++) {
            x.bell(100 * kind, 0, 10 + kind);
        }
        for (int bell = 0; bell < 7; bell++) {
            for (int kind = 0; kind < 7; kind++) {
                boolean is = of[bell].indexOf('0' + kind) >= 0;
                Due.is("7: as(" + bell + ", " + kind + ")", x.as(bell, kind), is ? 10 + bell : Due.KIND);
            }
        }
        int[][] wrong = {{-1, 0}, {3, 0}, {0, -1}, {0, 7}, {MAX, MAX}, {MIN, MIN}};
        for (int[] w : wrong) {
            Due.refuses("7: as", ValleyTest::village, Due.BEYOND, o -> o.as(w[0], w[1]));
        }
        Due.refuses("7: as", ValleyTest::village, Due.KIND, o -> o.as(1, 1));
    }

    private static void promise8() {
        strikesAt(0, "111111111111111111111111");
        strikesAt(100, "000000111111111111111110");
        strikesAt(200, "000000001000100010000000");
        strikesAt(305, "111111111111111111111111");
        strikesAt(407, "100000111111111111111110");
        strikesAt(512, "000000000000100000000000");
        strikesAt(506, "000000100000000000000000");
        strikesAt(522, "000000000000000000000010");
        strikesAt(500, "000000000000000000000000");
        strikesAt(505, "000000000000000000000000");
        strikesAt(523, "000000000000000000000000");
        strikesAt(608, "111111110111111111111111");
        strikesAt(600, "011111111111111111111111");
        strikesAt(623, "111111111111111111111110");
        int[][] wrong = {{-1, 0}, {3, 0}, {0, -1}, {0, 24}, {MAX, 0}, {0, MIN}};
        for (int[] w : wrong) {
            Due.refuses("8: strikes", ValleyTest::village, Due.BEYOND, o -> o.strikes(w[0], w[1]));
        }
    }

    private static void strikesAt(int km, String hours) {
        OneBreath x = new OneBreath();
        x.bell(km, 50, 50);
        for (int hour = 0; hour < 24; hour++) {
            Due.is("8: strikes of " + km + " at " + hour, x.strikes(0, hour), hours.charAt(hour) - '0');
        }
        x.change(0, 6, 1);
        for (int hour = 0; hour < 24; hour++) {
            Due.is("8: strikes of a silent " + km, x.strikes(0, hour), 0);
        }
    }

    private static void promise9() {
        OneBreath x = new OneBreath();
        for (int i = 0; i < 10; i++) {
            Due.is("9: ear", x.ear(11 * i), i);
        }
        Due.is("9: an eleventh", x.ear(0), Due.FULL);
        Due.is("9: BEYOND ahead of FULL", x.ear(-1), Due.BEYOND);
        Due.is("9: count(1)", x.count(1), 10);
        x.bell(0, 0, 0);
        for (int i = 0; i < 10; i++) {
            Due.is("9: where it is", x.way(0, i, 0), 11 * i);
        }
        for (int spot : new int[] {-1, 100, MAX, MIN}) {
            Due.refuses("9: ear", ValleyTest::village, Due.BEYOND, o -> o.ear(spot));
        }
        Due.refuses("9: ear", ValleyTest::fullValley, Due.FULL, o -> o.ear(0));
    }

    private static void promise10() {
        OneBreath x = new OneBreath();
        x.bell(0, 0, 0);
        x.sheet(0, 8, 4);
        x.put(0, 0, 256 + 5);
        x.put(0, 1, 99);
        x.put(0, 2, 100);
        x.put(0, 3, 7);
        Due.is("10: up to the first that is no SPOT", x.ears(0), 2);
        Due.is("10: its lowest 8 bits", x.way(0, 0, 0), 5);
        Due.is("10: the next", x.way(0, 1, 0), 99);
        x.sheet(1, 16, 2);
        x.put(1, 0, 65536 * 3 + 44);
        x.put(1, 1, 256 + 5);
        Due.is("10: of 16 bits", x.ears(1), 1);
        Due.is("10: its lowest 16 bits", x.way(0, 2, 0), 44);
        x.sheet(2, 32, 3);
        x.put(2, 0, 12);
        x.put(2, 1, 65536 + 12);
        Due.is("10: of 32 bits", x.ears(2), 1);
        x.put(2, 0, -1);
        Due.is("10: none comes", x.ears(2), 0);
        x.sheet(3, 8, 0);
        Due.is("10: of an empty one", x.ears(3), 0);
        x.sheet(3, 8, 40);
        Due.is("10: those that have room", x.ears(3), 6);
        Due.is("10: no room", x.ears(3), 0);
        Due.is("10: count(1)", x.count(1), 10);
        x.sheet(3, 0, 0);
        Due.is("10: NONE, though there is no room", x.ears(3), Due.NONE);
        for (int sheet : new int[] {-1, 4, MAX, MIN}) {
            Due.refuses("10: ears", ValleyTest::village, Due.BEYOND, o -> o.ears(sheet));
        }
        Due.refuses("10: ears", ValleyTest::village, Due.NONE, o -> o.ears(3));
    }

    private static void promise11() {
        OneBreath x = new OneBreath();
        x.bell(400, 20, 50);
        x.ear(30);
        x.ear(20);
        x.ear(10);
        x.ear(21);
        x.ear(27);
        x.ear(13);
        int[][] hills = {{20, 9}, {30, 9}, {21, 1}, {29, 2}, {25, 3}, {19, 4}, {11, 5}, {10, 9}, {31, 9}, {9, 9}};
        for (int[] h : hills) {
            x.hill(h[0], h[1]);
        }
        ways(x, 0, 0, 10, 6, 30, 10, 30);
        ways(x, 0, 1, 0, 0, 0, 50, 0);
        ways(x, 0, 2, 10, 9, 30, -5, 30);
        ways(x, 0, 3, 1, 0, 3, 49, 3);
        x.change(0, 4, -40);
        x.set(0, 3);
        ways(x, 0, 0, 10, 6, 24, 13, -16);
        ways(x, 0, 1, 0, 0, 0, 50, -40);
        ways(x, 0, 2, 10, 9, 36, -8, -4);
        ways(x, 0, 3, 1, 0, 3, 52, -37);
        x.set(0, 4);
        ways(x, 0, 4, 7, 4, 16, 27, -24);
        ways(x, 0, 5, 7, 4, 26, 19, -14);
        x.set(0, -4);
        ways(x, 0, 4, 7, 4, 26, 19, -14);
        ways(x, 0, 5, 7, 4, 16, 27, -24);
        x.change(0, 6, 1);
        Due.is("11: of a silent one", x.way(0, 4, 4), -14);
        Due.text(x, 0, "k*100+w*1000");
        Due.is("11: k and w", x.way(0, 0, 3), -3600);
        Due.is("11: w from the other side", x.way(0, 2, 3), 4400);
        Due.is("11: w at the same SPOT", x.way(0, 1, 3), 400);
        Due.text(x, 0, "l*9999*9999");
        Due.is("11: a STRENGTH that wraps", x.way(0, 0, 3), 50 * 9999 * 9999);
        int[][] wrong = {{-1, 0, 0}, {3, 0, 0}, {0, -1, 0}, {0, 2, 0}, {0, 0, -1}, {0, 0, 5}, {MAX, MIN, MAX}};
        for (int[] w : wrong) {
            Due.refuses("11: way", ValleyTest::village, Due.BEYOND, o -> o.way(w[0], w[1], w[2]));
        }
    }

    private static void ways(OneBreath x, int bell, int ear, int... due) {
        for (int what = 0; what < due.length; what++) {
            Due.is("11: way(" + bell + ", " + ear + ", " + what + ")", x.way(bell, ear, what), due[what]);
        }
    }

    private static void promise12() {
        OneBreath x = new OneBreath();
        x.bell(0, 20, 10);
        x.bell(100, 20, 11);
        x.bell(600, 40, 99);
        x.bell(512, 31, 2);
        x.ear(30);
        x.ear(99);
        Due.is("12: STRENGTH 0 is not HEARD, 1 is", x.heard(0, 6), 2 + 4 + 8 * x.strikes(3, 6));
        Due.is("12: at 12", x.heard(0, 12), 2 + 4 + 8);
        Due.is("12: at 0", x.heard(0, 0), 0);
        Due.is("12: at 23", x.heard(0, 23), 4);
        Due.is("12: far", x.heard(1, 12), 4);
        x.set(0, 1);
        Due.is("12: with the WIND", x.heard(0, 12), 1 + 2 + 4);
        x.set(0, -1);
        Due.is("12: against it", x.heard(0, 12), 4 + 8);
        x.change(2, 6, 1);
        Due.is("12: a silent one", x.heard(0, 12), 8);
        int[][] wrong = {{-1, 0}, {2, 0}, {0, -1}, {0, 24}, {MAX, 0}, {0, MIN}};
        for (int[] w : wrong) {
            Due.refuses("12: heard", ValleyTest::village, Due.BEYOND, o -> o.heard(w[0], w[1]));
        }
    }
}
