/** Promises 32 to 42: voices, sheets, images, what is told. */
public final class KeptTest {
    private static final int MAX = Integer.MAX_VALUE;
    private static final int MIN = Integer.MIN_VALUE;

    private KeptTest() {
    }

    public static void main(String[] args) {
        promise32();
        promise33();
        promise34();
        promise35();
        promise36();
        promise37();
        promise38();
        promise39();
        promise40();
        promise41();
        promise42();
        Due.end("KeptTest");
    }

    /** BELLS 0 to 6 of KINDS 0 to 6, m of each being 10 and its number. */
    private static OneBreath kinds() {
        OneBreath x = new OneBreath();
        for (int kind = 0; kind < 7; kind++) {
            x.bell(100 * kind + 10 + kind, 50, 50);
        }
        return x;
    }

    private static void said(int bell, int act, int x, int due, int... bodies) {
        OneBreath o = kinds();
        Due.is("32: voice(" + bell + ", " + act + ", " + x + ")", o.voice(bell, act, x), due);
        Due.is("33: how many BODIES", o.count(6), bodies.length);
        for (int i = 0; i < bodies.length; i++) {
            Due.is("33: trace(" + i + ") of voice(" + bell + ", " + act + ")", o.trace(i), bodies[i]);
        }
        Due.is("33: no more", o.trace(bodies.length), Due.NONE);
    }

    private static void promise32() {
        said(0, 0, 5, 5, 10);
        said(0, 1, 5, 10, 11, 10);
        said(0, 2, 5, -5, 12);
        said(0, 3, 5, 10 ^ -5, 13, 11, 10, 12);
        said(1, 0, 5, 6, 10);
        said(1, 1, 5, 12 - (1 - 11), 20, 11, 10, 12);
        said(1, 2, 5, -6, 12);
        said(1, 3, 5, 22 ^ -6, 13, 20, 11, 10, 12, 12);
        said(2, 0, 5, 21, 30, 10);
        said(2, 1, 5, 42, 11, 30, 10);
        said(2, 2, 5, -7, 12);
        said(2, 3, 5, 42 ^ -7, 13, 11, 30, 10, 12);
        said(3, 0, 5, 8, 10);
        said(3, 1, 5, 16, 11, 10);
        said(3, 2, 5, 8, 40, 12);
        said(3, 3, 5, 16 ^ 8, 13, 11, 10, 40, 12);
        said(4, 0, 5, 9, 10);
        said(4, 1, 5, 20 + 13, 50, 20, 11, 10, 12);
        said(4, 2, 5, -9, 12);
        said(4, 3, 5, 33 ^ -9, 13, 50, 20, 11, 10, 12, 12);
        said(5, 0, 5, 10, 10);
        said(5, 1, 5, 20 + 14, 20, 11, 10, 12);
        said(5, 2, 5, -10, 12);
        said(5, 3, 5, (34 ^ -10) - 7, 60, 13, 20, 11, 10, 12, 12, 10);
        said(6, 0, 5, 11, 10);
        said(6, 1, 5, 22, 11, 10);
        said(6, 2, 5, 11 ^ 6, 70, 40, 12);
        said(6, 3, 5, 22 - (22 ^ 11 ^ 6), 71, 11, 10, 13, 11, 10, 70, 40, 12);
        said(1, 0, MAX, MIN, 10);
        said(1, 1, MAX, 10, 20, 11, 10, 12);
        said(4, 1, MAX, 2 * (MIN + 4) + 13, 50, 20, 11, 10, 12);
        OneBreath x = kinds();
        Due.is("32: what looks like an ERROR", x.voice(0, 0, Due.BEYOND), Due.BEYOND);
        Due.is("32: is none", x.told(1), 0);
        x.change(0, 6, 1);
        Due.is("32: of a SILENT one", x.voice(0, 0, 5), 5);
        int[][] wrong = {{-1, 0}, {3, 0}, {0, -1}, {0, 4}, {MAX, 0}, {0, MIN}};
        for (int[] w : wrong) {
            Due.refuses("32: voice", ValleyTest::village, Due.BEYOND, o -> o.voice(w[0], w[1], 9));
        }
    }

    private static void promise33() {
        OneBreath x = kinds();
        Due.is("33: at first", x.trace(0), Due.NONE);
        x.voice(6, 3, 1);
        x.voice(0, 1, 1);
        Due.is("33: of the latest", x.trace(0), 11);
        Due.is("33: of the latest", x.trace(1), 10);
        Due.is("33: nothing of those ahead", x.trace(2), Due.NONE);
        x.voice(0, 4, 1);
        Due.is("33: a voice that is refused leaves it", x.trace(0), 11);
        for (int i : new int[] {-1, 5, 40, MAX, MIN}) {
            Due.refuses("33: trace", ValleyTest::village, Due.NONE, o -> o.trace(i));
        }
    }

    private static void promise34() {
        OneBreath x = new OneBreath();
        Due.is("34: of 8 bits", x.sheet(0, 8, 40), 1);
        Due.is("34: of 16 bits", x.sheet(1, 16, 1), 1);
        Due.is("34: of 32 bits", x.sheet(3, 32, 0), 1);
        Due.is("34: its last", x.put(0, 39, 100), 1);
        Due.is("34: no more", x.put(0, 40, 1), Due.BEYOND);
        Due.is("34: none at all", x.put(3, 0, 1), Due.BEYOND);
        Due.is("34: not missing", x.ears(3), 0);
        x.put(1, 0, 100);
        Due.is("34: no SPOT", x.ears(1), 0);
        Due.is("34: anew", x.sheet(1, 16, 2), 1);
        Due.is("34: all 0", x.ears(1), 2);
        Due.is("34: missing", x.sheet(1, 0, -5), 1);
        Due.is("34: is so", x.ears(1), Due.NONE);
        Due.is("34: missing, n doesn't matter", x.sheet(0, 0, 99), 1);
        Due.is("34: is so", x.put(0, 0, 0), Due.NONE);
        Due.is("34: what is missing can go missing", x.sheet(0, 0, 0), 1);
        int[][] wrong = {{-1, 8, 1}, {4, 8, 1}, {0, 7, 1}, {0, 64, 1}, {0, -8, 1}, {0, 8, 41}, {0, 8, MAX}, {-1, 8, -1},
            {0, 9, -1}, {MAX, 8, 1}, {0, MIN, 1}, {-1, 0, 1}};
        for (int[] w : wrong) {
            Due.refuses("34: sheet", ValleyTest::village, Due.BEYOND, o -> o.sheet(w[0], w[1], w[2]));
        }
        Due.refuses("34: sheet", ValleyTest::village, Due.STATE, o -> o.sheet(0, 8, -1));
        Due.refuses("34: sheet", ValleyTest::village, Due.STATE, o -> o.sheet(3, 32, MIN));
        OneBreath y = sheets();
        y.sheet(0, 8, -1);
        y.sheet(0, 8, 41);
        y.sheet(0, 5, 1);
        Due.is("34: an ERROR leaves it", spots(y, 0), "5 6 7 ");
    }

    /** SHEETS 0: 5 6 7 100 of 8 bits; 1: 1 2 3 4 5 of 8 bits; 2: 9 8 of 16 bits; 3 missing. */
    private static OneBreath sheets() {
        OneBreath x = new OneBreath();
        x.bell(0, 0, 0);
        x.sheet(0, 8, 4);
        int[] first = {5, 6, 7, 100};
        for (int i = 0; i < 4; i++) {
            x.put(0, i, first[i]);
        }
        x.sheet(1, 8, 5);
        for (int i = 0; i < 5; i++) {
            x.put(1, i, i + 1);
        }
        x.sheet(2, 16, 2);
        x.put(2, 0, 9);
        x.put(2, 1, 8);
        return x;
    }

    /** The SPOTS that come from a SHEET, by an image that is restored. */
    private static String spots(OneBreath x, int sheet) {
        x.image();
        int had = x.count(1);
        int came = x.ears(sheet);
        StringBuilder spots = new StringBuilder();
        for (int i = 0; i < came; i++) {
            spots.append(x.way(0, had + i, 0)).append(' ');
        }
        x.restore();
        return spots.toString();
    }

    private static void promise35() {
        OneBreath x = sheets();
        Due.is("35: as put", spots(x, 0), "5 6 7 ");
        Due.is("35: put", x.put(0, 3, 99), 1);
        Due.is("35: the last too", spots(x, 0), "5 6 7 99 ");
        x.put(0, 1, 0x7fffff00 + 33);
        Due.is("35: its lowest bits", spots(x, 0), "5 33 7 99 ");
        x.put(2, 0, 0x7fff0000 + 44);
        x.put(2, 1, 256 + 44);
        Due.is("35: its lowest 16 bits", spots(x, 2), "44 ");
        x.sheet(3, 32, 2);
        x.put(3, 0, 55);
        x.put(3, 1, 65536);
        Due.is("35: all 32 bits", spots(x, 3), "55 ");
        Due.is("35: no such number", x.put(0, 4, 1), Due.BEYOND);
        Due.is("35: no such number", x.put(0, -1, 1), Due.BEYOND);
        Due.is("35: no such number", x.put(0, MAX, 1), Due.BEYOND);
        Due.is("35: no such number", x.put(0, MIN, 1), Due.BEYOND);
        Due.is("35: nothing changed", spots(x, 0), "5 33 7 99 ");
        for (int sheet : new int[] {-1, 4, MAX, MIN}) {
            Due.refuses("35: put", KeptTest::sheets, Due.BEYOND, o -> o.put(sheet, 0, 1));
        }
        Due.refuses("35: put", KeptTest::sheets, Due.NONE, o -> o.put(3, 0, 1));
        Due.refuses("35: put, NONE ahead of BEYOND", KeptTest::sheets, Due.NONE, o -> o.put(3, 99, 1));
        Due.refuses("35: put", KeptTest::sheets, Due.BEYOND, o -> o.put(2, 2, 1));
    }

    private static void moved(int i, int other, int j, int n, String one, String two) {
        OneBreath x = sheets();
        Due.is("36: move", x.move(1, i, other, j, n), n);
        Due.is("36: SHEET 0", spots(x, 0), one);
        Due.is("36: SHEET 1", spots(x, 1), two);
    }

    private static void promise36() {
        moved(0, 0, 0, 4, "1 2 3 4 ", "1 2 3 4 5 ");
        moved(3, 0, 1, 2, "5 4 5 ", "1 2 3 4 5 ");
        moved(4, 0, 3, 1, "5 6 7 5 ", "1 2 3 4 5 ");
        moved(0, 0, 0, 0, "5 6 7 ", "1 2 3 4 5 ");
        moved(5, 0, 4, 0, "5 6 7 ", "1 2 3 4 5 ");
        moved(0, 1, 1, 4, "5 6 7 ", "1 1 2 3 4 ");
        moved(1, 1, 0, 4, "5 6 7 ", "2 3 4 5 5 ");
        moved(0, 1, 0, 5, "5 6 7 ", "1 2 3 4 5 ");
        int[][] none = {{3, 0, 0, 0, 1}, {0, 0, 3, 0, 1}, {3, -1, 3, -1, -1}, {3, 0, 2, 0, 0}};
        for (int[] w : none) {
            Due.refuses("36: move", KeptTest::sheets, Due.NONE, o -> o.move(w[0], w[1], w[2], w[3], w[4]));
        }
        int[][] unlike = {{0, 0, 2, 0, 1}, {2, 0, 0, 0, 1}, {0, -1, 2, -1, -1}, {2, 0, 1, 0, 99}};
        for (int[] w : unlike) {
            Due.refuses("36: move", KeptTest::sheets, Due.KIND, o -> o.move(w[0], w[1], w[2], w[3], w[4]));
        }
        int[][] wrong = {{-1, 0, 0, 0, 0}, {0, 0, -1, 0, 0}, {4, 0, 3, 0, 0}, {3, 0, 4, 0, 0}, {0, -1, 1, 0, 1},
            {0, 0, 1, -1, 1}, {0, 0, 1, 0, -1}, {0, 4, 1, 0, 1}, {0, 5, 1, 0, 0}, {1, 0, 0, 5, 0}, {0, 3, 1, 0, 2},
            {1, 0, 0, 0, 5}, {1, 0, 0, 3, 2}, {0, MAX, 1, 0, MAX}, {0, 1, 1, 1, MAX}, {0, MAX, 1, MAX, 1},
            {0, MIN, 1, 0, MIN}, {MAX, 0, MIN, 0, 0}};
        for (int[] w : wrong) {
            Due.refuses("36: move", KeptTest::sheets, Due.BEYOND, o -> o.move(w[0], w[1], w[2], w[3], w[4]));
            OneBreath x = sheets();
            x.move(w[0], w[1], w[2], w[3], w[4]);
            Due.is("36: nothing moved", spots(x, 0) + spots(x, 1), "5 6 7 1 2 3 4 5 ");
        }
    }

    private static void changeAll(OneBreath x) {
        x.hill(0, 7);
        x.hill(45, 1);
        x.set(0, -2);
        x.set(1, 9);
        x.set(2, 200);
        for (int what = 2; what <= 6; what++) {
            x.change(1, what, 1);
        }
        x.change(1, 5, 44);
        x.bell(623, 3, 4);
        x.ear(77);
        x.feed('d', 1);
        Due.text(x, 0, "l*d");
        Due.text(x, 1, "s*r");
        x.tell(8);
        x.tell(9);
        x.seed(123);
        x.days(3);
    }

    private static void promise37() {
        OneBreath x = ValleyTest.village();
        Due.is("37: the first", x.image(), 1);
        x.restore();
        Due.is("37: the second", x.image(), 2);
        changeAll(x);
        String second = Due.seen(x);
        Due.is("37: in place of one ahead", x.image(), 3);
        x.hill(0, 0);
        x.change(0, 2, 0);
        x.restore();
        Due.is("37: the latest is kept", Due.seen(x), second);
    }

    private static void promise38() {
        OneBreath x = ValleyTest.village();
        String before = Due.seen(x);
        x.image();
        changeAll(x);
        x.sheet(0, 8, 2);
        x.put(0, 0, 55);
        Due.is("38: restore", x.restore(), 3);
        Due.is("38: all is as it was", Due.seen(x), before);
        Due.is("38: but SHEETS", x.ears(0), 2);
        Due.is("38: of which THE TAPE", x.text(0), 1);
        Due.is("38: is what it was", x.law(0, 77, 5, 5, 5), 77);
        x.voice(0, 0, 1);
        x.bell(0, 0, 0);
        x.ofBell(-1, 0);
        Due.is("38: the IMAGE stays", x.restore(), 3);
        Due.is("38: THE TRACE isn't in it", x.count(6), 1);
        Due.is("38: what told() tells isn't", x.told(1), 1);
        Due.is("38: how often there was one isn't", x.image(), 2);
        Due.is("38: the number that waits", x.check(12), 2);
        x.restore();
        Due.is("38: waits again", x.count(5), 1);
        OneBreath y = new OneBreath();
        y.image();
        y.bell(0, 0, 0);
        Due.is("38: none", y.restore(), 0);
        Due.is("38: no BELLS", y.count(0), 0);
        Due.refuses("38: restore", ValleyTest::village, Due.NONE, o -> o.restore());
    }

    private static void promise39() {
        OneBreath x = new OneBreath();
        for (int i = 1; i <= 20; i++) {
            Due.is("39: tell", x.tell(MIN), i);
        }
        Due.is("39: FULL", x.tell(0), Due.FULL);
        Due.is("39: count(5)", x.count(5), 20);
        x.check(0);
        Due.is("39: room again", x.tell(0), 1);
        Due.refuses("39: tell", KeptTest::allWait, Due.FULL, o -> o.tell(1));
    }

    private static OneBreath allWait() {
        OneBreath x = ValleyTest.village();
        for (int i = 1; i < 20; i++) {
            x.tell(i);
        }
        return x;
    }

    /** Three BELLS that strike at one EAR, all there; and one that doesn't at 12. */
    private static void checked(int hour, int due, int... numbers) {
        OneBreath x = new OneBreath();
        x.bell(0, 50, 90);
        x.bell(0, 50, 90);
        x.bell(513, 50, 90);
        x.bell(0, 50, 90);
        x.ear(50);
        x.change(0, 4, 100);
        for (int number : numbers) {
            x.tell(number);
        }
        Due.is("40: check(" + hour + ")", x.check(hour), due);
        Due.is("40: none wait then", x.count(5), 0);
        Due.is("40: OFFSETS stay", x.ofBell(0, 4), 100);
    }

    private static void promise40() {
        checked(12, 0, 0, 4, 4, 8);
        checked(13, 3, 0, 4, 4, 8);
        checked(13, 0, 0, 4, 8, 12);
        checked(12, 2, 0, 3, 6, 9);
        checked(12, 2, 0, -3, 6, 9);
        checked(12, 4, 0, 4, 4, 7);
        checked(12, 4, 0, 40, 4, 2);
        checked(12, 0, 0, -4, 0, 4);
        checked(12, 0, -900, 900, 0, 4);
        checked(12, 1, -901, 900, 0, 4);
        checked(12, 2, -900, 901, 0, 4);
        checked(12, 3, 0, 10, 901, 4);
        checked(12, 4, 0, 10, 0, MIN);
        checked(12, 4, 0, 10, 0, MAX);
        checked(12, 1);
        checked(12, 2, 0);
        checked(12, 4, 0, 10, 0);
        checked(12, 5, 0, 10, 0, 20, 30);
        checked(12, 5, 0, 10, 0, 20, 901);
        checked(12, 2, 0, 0, 0, 20, 30);
        checked(12, 2, 0, 0);
        checked(12, 3, 0, 10);
        checked(12, 1, 901);
        checked(24, Due.BEYOND, 0, 10, 0, 20);
        checked(-1, Due.BEYOND, 0, 10);
        OneBreath x = new OneBreath();
        Due.is("40: without BELLS", x.check(0), 0);
        x.tell(0);
        Due.is("40: too many", x.check(0), 1);
        for (int hour : new int[] {-1, 24, MAX, MIN}) {
            Due.refuses("40: check", KeptTest::noneWait, Due.BEYOND, o -> o.check(hour));
        }
    }

    private static OneBreath noneWait() {
        OneBreath x = ValleyTest.village();
        x.check(0);
        return x;
    }

    private static void promise41() {
        OneBreath x = ValleyTest.village();
        x.change(0, 6, 1);
        x.change(2, 6, 1);
        x.set(0, -4);
        x.feed(0L, 3);
        x.tell(1);
        x.seed(-99);
        int[] counts = {3, 2, 2, -4, 4, 2, 5, -99};
        for (int what = 0; what < counts.length; what++) {
            Due.is("41: count(" + what + ")", x.count(what), counts[what]);
        }
        x.seed(Due.BEYOND);
        Due.is("41: z that looks like an ERROR", x.count(7), Due.BEYOND);
        Due.is("41: is none", x.told(1), 0);
        for (int what : new int[] {-1, 8, MAX, MIN}) {
            Due.refuses("41: count", ValleyTest::village, Due.BEYOND, o -> o.count(what));
        }
    }

    private static void promise42() {
        OneBreath x = new OneBreath();
        x.hill(-1, 0);
        x.restore();
        x.trace(0);
        x.sheet(0, 8, -1);
        x.sheet(1, 8, -1);
        x.sheet(2, 8, -1);
        x.bell(0, 0, 0);
        for (int i = 0; i < 5; i++) {
            x.as(0, 1);
        }
        for (int i = 0; i < 24; i++) {
            x.tell(0);
        }
        for (int k = 1; k <= 5; k++) {
            Due.is("42: told(" + k + ")", x.told(k), k);
        }
        for (int k : new int[] {0, 6, -1, MAX, MIN}) {
            Due.is("42: told(" + k + ")", x.told(k), Due.BEYOND);
        }
        Due.is("42: counted, too", x.told(1), 6);
        x.restore();
        Due.is("42: one more", x.told(2), 3);
        for (int k : new int[] {0, 6, MAX, MIN}) {
            Due.refuses("42: told", ValleyTest::village, Due.BEYOND, o -> o.told(k));
        }
    }
}
