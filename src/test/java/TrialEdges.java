/** Silence, winds, cows, a new one, days: promises 23 to 31 with their terms, at their edges. */
final class TrialEdges {
    private static final int MAX = Integer.MAX_VALUE;
    private static final int MIN = Integer.MIN_VALUE;

    private TrialEdges() {
    }

    static void all() {
        silence();
        winds();
        holds();
        holdsAtBothEnds();
        chance();
        hangs();
        hangsByAnyEar();
        place();
        days();
        draws();
        ahead();
        seed();
        aFullValley();
        nothingStays();
    }

    /** n BELLS that strike at all HOURS and an EAR, all at SPOT 50. */
    private static OneBreath heap(int n) {
        OneBreath x = new OneBreath();
        for (int i = 0; i < n; i++) {
            x.bell(0, 50, 90);
        }
        x.ear(50);
        return x;
    }

    private static void silences(String what, OneBreath x, int set, int ranks) {
        Due.is("23: " + what + ", the set", x.silence(12, 0), set);
        Due.is("23: " + what + ", RANKS together", x.silence(12, 1), ranks);
    }

    private static void silence() {
        Doc.term("SILENCE at an HOUR: the set of BELLS that, were they SILENT, leaves no CLASH, of the least RANK together");
        Doc.promise(23, "SILENCE: what 0 the set, 1 RANKS together");
        silences("no BELLS", new OneBreath(), 0, 0);
        silences("one BELL", heap(1), 0, 0);
        silences("of two like ones the least as bits", heap(2), 1, 1);
        silences("of 8 like ones", heap(8), 127, 7);
        OneBreath x = heap(8);
        for (int i = 0; i < 8; i++) {
            x.change(i, 5, 99);
        }
        silences("the most", x, 127, 693);
        x.change(0, 5, 98);
        x.change(1, 5, 98);
        silences("two that are cheaper", x, 127, 691);
        x.change(0, 5, 99);
        x.change(1, 5, 99);
        x.change(7, 5, 98);
        silences("the last is cheaper", x, 255 - 64, 692);
        for (int i = 0; i < 8; i++) {
            x.change(i, 5, 0);
        }
        silences("RANKS of 0", x, 127, 0);
        OneBreath y = heap(3);
        y.change(0, 4, -3);
        y.change(2, 4, 3);
        y.change(1, 5, 2);
        silences("two for one of the same RANK, the least as bits", y, 2, 2);
        y.change(1, 5, 3);
        silences("two that are cheaper than one", y, 5, 2);
        y.change(0, 6, 1);
        silences("what is SILENT needn't be", y, 4, 1);
        y.change(1, 6, 1);
        silences("nothing clashes", y, 0, 0);
        OneBreath z = heap(2);
        z.change(0, 5, 0);
        z.change(1, 4, 4);
        silences("nothing clashes, though one costs 0", z, 0, 0);
        OneBreath u = new OneBreath();
        u.bell(0, 50, 90);
        u.bell(600, 50, 90);
        u.ear(50);
        Due.is("23: at the STRAY's m", u.silence(0, 0), 0);
        Due.is("23: at another HOUR", u.silence(23, 0), 1);
    }

    /** At EAR 50, BELL 0 is HEARD after 30 - 2 * WIND seconds, BELL 1 after its OFFSET and 30 + 2 * WIND. */
    private static OneBreath pair(int breath, int offset) {
        OneBreath x = new OneBreath();
        x.bell(0, 40, 90);
        x.bell(600, 60, 90);
        x.ear(50);
        x.set(1, breath);
        x.change(1, 4, offset);
        return x;
    }

    private static void winds() {
        Doc.term("WINDS at an HOUR: those (bit w and 5) in which nothing clashes");
        Doc.promise(24, "WINDS, as bits");
        Due.is("24: no BELLS", new OneBreath().winds(0), 2047);
        Due.is("24: none of them", heap(2).winds(23), 0);
        Due.is("24: not in WIND 0", pair(3, 0).winds(12), 2047 - 32);
        Due.is("24: not in WIND -5", pair(3, 20).winds(12), 2046);
        Due.is("24: not in WIND 5", pair(3, -20).winds(12), 1023);
        Due.is("24: BREATH 3, not in WIND -4", pair(3, 16).winds(12), 2047 - 2);
        Due.is("24: BREATH 4, nor in WINDS beside it", pair(4, 16).winds(12), 2047 - 1 - 2 - 4);
        Due.is("24: just beyond", pair(3, 24).winds(12), 2047);
        Due.is("24: just within", pair(3, 23).winds(12), 2046);
        Due.is("24: in each within 30", pair(30, 0).winds(12), 0);
        Due.is("24: one doesn't strike", pair(30, 0).winds(0), 2047);
        OneBreath x = pair(0, 0);
        x.set(0, 5);
        Due.is("24: whatever WIND is", x.winds(12), 2047 - 32);
        Due.is("24: which stays", x.count(3), 5);
    }

    private static void holding(String what, OneBreath x, int bell, int shift, int winds) {
        Due.is("25: " + what + ", the shift", x.holds(bell, 12, 0), shift);
        Due.is("25: " + what + ", in how many WINDS", x.holds(bell, 12, 1), winds);
    }

    private static void holds() {
        Doc.term("HOLDS: of shifts of a BELL (-BOUND to BOUND seconds, added to its OFFSET; not held) that by which it is in");
        Doc.promise(25, "HOLDS: what 0 the shift, 1 in how many WINDS it is in a CLASH then");
        holding("alone", heap(1), 0, 0, 0);
        OneBreath x = heap(2);
        holding("of two the one below 0", x, 0, -4, 0);
        x.change(1, 4, -1);
        holding("the least without sign", x, 0, 3, 0);
        x.change(1, 4, 4);
        holding("no shift is needed", x, 0, 0, 0);
        x.change(1, 4, 0);
        x.set(2, 0);
        holding("BOUND 0", x, 0, 0, 11);
        x.set(2, 3);
        holding("BOUND too small", x, 1, 0, 11);
        x.set(2, 4);
        holding("just within BOUND", x, 1, -4, 0);
        x.change(0, 4, 900);
        x.change(1, 4, 899);
        holding("above 900, not held", x, 0, 3, 0);
        x.change(0, 4, -900);
        x.change(1, 4, -899);
        holding("below -900, not held", x, 0, -3, 0);
        x.change(1, 6, 1);
        holding("of a SILENT one", x, 1, 0, 0);
        holding("beside a SILENT one", x, 0, 0, 0);
        OneBreath y = pair(3, 0);
        y.set(2, 0);
        holding("in WIND 0 alone", y, 0, 0, 1);
        y.set(0, 3);
        holding("of all WINDS", y, 1, 0, 1);
        Due.is("25: WIND stays", y.count(3), 3);
        Due.is("25: OFFSET stays", y.ofBell(0, 4), 0);
        holding("by a second", pair(0, 0), 0, -1, 0);
        OneBreath third = pair(0, 0);
        third.bell(0, 60, 90);
        third.change(2, 4, -1);
        holding("by a second, above 0", third, 0, 1, 0);
        OneBreath z = pair(30, 0);
        z.set(2, 9);
        holding("in each WIND", z, 0, 0, 11);
        z.set(2, 11);
        // Shift s clashes in WINDS w with 4 * w within 30 of s: one less in WIND 5 or -5 from 11 on.
        holding("one WIND less", z, 0, -11, 10);
        z.set(2, 300);
        holding("in no WIND", z, 0, -51, 0);
    }

    /** Five BELLS clash with all shifts of BELL 0 from -305 - 2 * WIND to 299 - 2 * WIND, or their mirror. */
    private static OneBreath wall(int side) {
        OneBreath x = new OneBreath();
        x.bell(0, side > 0 ? 60 : 50, 90);
        int[] offsets = {239, 118, -3, -124, -245};
        for (int i = 1; i <= 5; i++) {
            x.bell(0, side > 0 ? 50 : 60, 90);
            x.change(i, 4, side * offsets[i - 1]);
        }
        x.ear(50);
        x.ear(55);
        x.ear(60);
        x.set(1, 30);
        x.set(2, 300);
        return x;
    }

    private static void holdsAtBothEnds() {
        holding("the greatest shift", wall(1), 0, 300, 5);
        holding("the least shift", wall(-1), 0, -300, 5);
        OneBreath x = wall(1);
        x.set(2, 299);
        holding("one less, of 298 and 299", x, 0, 298, 6);
        x = wall(-1);
        x.set(2, 299);
        holding("one more, of -298 and -299", x, 0, -298, 6);
        x.set(2, 300);
        x.change(1, 4, -240);
        holding("the least shift is no better", x, 0, -299, 6);
        x.change(1, 4, -239);
        holding("the least shift again", x, 0, -300, 5);
    }

    private static void chances(String what, OneBreath x, int bell, int above, int below) {
        Due.is("26: " + what + ", above", x.chance(bell, 12, 0), above);
        Due.is("26: " + what + ", below", x.chance(bell, 12, 1), below);
    }

    /** A BELL at its EAR, and a COW with such m at a SPOT; it clashes where it is FAR 1 or less from the EAR. */
    private static OneBreath cow(int at, int m, int spot) {
        OneBreath x = new OneBreath();
        x.bell(0, at, 99);
        x.bell(300 + m, spot, 99);
        x.ear(at);
        return x;
    }

    private static void chance() {
        Doc.term("CHANCE of a COW at an HOUR: in how many of the SPOTS that are m or less from its own it would be in a CLASH");
        Doc.promise(26, "CHANCE of a COW: part 0 above, 1 below the line");
        chances("m 0, where it clashes", cow(50, 0, 50), 1, 1, 1);
        chances("m 0, where it doesn't", cow(50, 0, 52), 1, 0, 1);
        chances("m 1", cow(50, 1, 50), 1, 1, 1);
        chances("m 23", cow(50, 23, 50), 1, 3, 47);
        chances("m 23 at SPOT 0", cow(0, 23, 0), 1, 1, 12);
        chances("m 23 at SPOT 99", cow(99, 23, 99), 1, 1, 12);
        chances("m 23 at SPOT 22", cow(0, 23, 22), 1, 1, 23);
        chances("m 23 at SPOT 23, just in reach of 0", cow(0, 23, 23), 1, 2, 47);
        chances("m 23 at SPOT 24, of 1 alone", cow(0, 23, 24), 1, 1, 47);
        chances("m 23 at SPOT 25, of none", cow(0, 23, 25), 1, 0, 1);
        chances("m 4, in lowest terms", cow(50, 4, 50), 1, 1, 3);
        chances("m 1 at SPOT 0, two of two", cow(0, 1, 0), 1, 1, 1);
        OneBreath x = cow(50, 2, 50);
        chances("3 of 5", x, 1, 3, 5);
        x.change(1, 6, 1);
        chances("of a SILENT one", x, 1, 0, 1);
        x.change(1, 6, 0);
        x.change(0, 6, 1);
        chances("beside a SILENT one", x, 1, 0, 1);
        x.change(0, 6, 0);
        x.change(1, 3, 1);
        chances("HEARD at its own SPOT alone", x, 1, 1, 5);
        OneBreath y = new OneBreath();
        y.bell(612, 50, 99);
        y.bell(0, 50, 99);
        y.ear(50);
        chances("a STRAY at its m", y, 0, 0, 1);
        Due.is("26: a STRAY at another HOUR, above", y.chance(0, 11, 0), 3);
        Due.is("26: a STRAY at another HOUR, below", y.chance(0, 11, 1), 25);
        Due.is("26: it stays where it is", y.ofBell(0, 2), 50);
        OneBreath alone = new OneBreath();
        alone.bell(323, 50, 99);
        chances("without EARS", alone, 0, 0, 1);
    }

    private static void hangs() {
        Doc.term("HANGS: a new BELL of KIND BELL at a SPOT, OFFSET 0: the greatest LOUD (0 to 99) with which it is in no CLASH");
        Doc.promise(27, "HANGS: LOUD");
        Due.is("27: no BELLS", new OneBreath().hangs(0, 0), 99);
        OneBreath x = heap(8);
        Due.is("27: at the EAR, of 8 BELLS", x.hangs(50, 12), 0);
        Due.is("27: FAR 1, within BREATH", x.hangs(51, 12), 1);
        Due.is("27: FAR 1, ahead", x.hangs(49, 12), 1);
        Due.is("27: FAR 2, beyond it", x.hangs(52, 12), 99);
        Due.is("27: the number of BELLS stays", x.count(0), 8);
        OneBreath y = new OneBreath();
        y.bell(600, 50, 99);
        y.ear(0);
        y.change(0, 4, 147);
        Due.is("27: from SPOT 99, SECONDS 297", y.hangs(99, 12), 99);
        Due.is("27: it doesn't strike", y.hangs(99, 0), 99);
        y.change(0, 2, 0);
        y.change(0, 4, 297);
        Due.is("27: just not HEARD with 99", y.hangs(99, 12), 99);
        y.set(0, -1);
        y.change(0, 4, 297 - 19);
        Due.is("27: HEARD with 99 in the WIND", y.hangs(99, 12), 98);
        Due.text(y, 0, "k=0&l<99|k");
        Due.is("27: with the greatest alone", y.hangs(99, 12), 99);
        Due.text(y, 0, "k=0&l>0|k");
        Due.is("27: with the least alone", y.hangs(99, 12), 0);
        Due.text(y, 0, "!(l=42)|k");
        Due.is("27: with one alone", y.hangs(99, 12), 42);
        Doc.promise(27, "NONE: not even with 0");
        Due.text(y, 0, "1");
        Due.is("27: not even with 0", y.hangs(99, 12), Due.NONE);
        Due.text(y, 0, "k");
        Due.is("27: of KIND BELL, which isn't HEARD", y.hangs(99, 12), 99);
    }

    /** The EAR at which it would clash may be any of 10. */
    private static void hangsByAnyEar() {
        for (int clashing = 0; clashing < 10; clashing++) {
            OneBreath x = new OneBreath();
            x.bell(0, 50, 5);
            for (int ear = 0; ear < 10; ear++) {
                x.ear(ear == clashing ? 50 : 60 + 3 * ear);
            }
            Due.is("27: at EAR " + clashing, x.hangs(50, 12), 0);
            Due.is("28: at EAR " + clashing, x.place(12, 0), 0);
            x.change(0, 3, 99);
            x.change(0, 2, 60);
            // The BELL at 60 is 30 seconds from the EAR at 50, as a new one at 40 is; at all other EARS they differ.
            Due.is("27: from 40 at EAR " + clashing, x.hangs(40, 12), 10);
        }
    }

    private static void placed(String what, OneBreath x, int spot, int loud) {
        Due.is("28: " + what + ", the SPOT", x.place(12, 0), spot);
        Due.is("28: " + what + ", LOUD there", x.place(12, 1), loud);
    }

    /** Seven BELLS at SPOT 0, 50 seconds apart, within BREATH of what comes to the EAR there from any SPOT. */
    private static OneBreath everywhere(String carries) {
        OneBreath x = new OneBreath();
        for (int i = 0; i < 7; i++) {
            x.bell(0, 0, 99);
            x.change(i, 4, 50 * i);
        }
        x.ear(0);
        x.set(1, 30);
        Due.is("14: " + carries, Due.text(x, 0, carries), 1);
        return x;
    }

    private static void place() {
        Doc.term("PLACE: of the SPOTS 0, 5, 10 .. 95 that with the greatest such LOUD; of several the least");
        Doc.promise(28, "PLACE: what 0 the SPOT, 1 LOUD there");
        placed("no BELLS", new OneBreath(), 0, 99);
        placed("the last alone", everywhere("!(d=95)"), 95, 99);
        placed("the last by 1", everywhere("d<1|l>(60+(d=95))"), 95, 61);
        placed("the first by 1", everywhere("(l>(60-(d>0)))"), 0, 60);
        placed("the first of all alike", everywhere("d<1&l>98|l>60"), 0, 60);
        placed("the least of several", everywhere("d<1|l>(60+(d>9&d<21))"), 10, 61);
        placed("with 0, the least", everywhere("d<1|l|!(d=70)"), 70, 0);
        Doc.promise(28, "NONE: none");
        Due.is("28: 96 to 99 don't matter", everywhere("!(d>95)").place(12, 0), Due.NONE);
        Due.is("28: nor do 1 to 4", everywhere("!(d>0&d<5)").place(12, 1), Due.NONE);
        Due.is("28: none", everywhere("1").place(12, 0), Due.NONE);
    }

    private static void days() {
        Doc.term("A DAY: each COW and STRAY by numbers goes where it GRAZES (by a draw)");
        Doc.term("A BELL that is SILENT goes all the same");
        Doc.promise(29, "n (1 to 60) DAYS go by: SPOTS of all BELLS together");
        Due.is("29: no BELLS", new OneBreath().days(60), 0);
        OneBreath x = new OneBreath();
        for (int i = 0; i < 8; i++) {
            x.bell(i < 7 ? 100 * i : 300, 50, 1);
        }
        x.change(6, 6, 1);
        // Draws of z 1: rests 5, then those of 1103527590 and of what follows.
        int z1 = 1103527590;
        int z2 = z1 * 1103515245 + 12345;
        int z3 = z2 * 1103515245 + 12345;
        int[] spots = {50, 50, 50, 50 + 5 - 3, 50, 50, 47 + (z2 >>> 8) % 7, 47 + (z3 >>> 8) % 7};
        int sum = 0;
        for (int spot : spots) {
            sum += spot;
        }
        Due.is("29: a DAY", x.days(1), sum);
        for (int i = 0; i < 8; i++) {
            Due.is("29: BELL " + i, x.ofBell(i, 2), spots[i]);
        }
        Due.is("29: three draws", x.count(7), z3);
        Due.text(x, 1, "99");
        Due.is("29: 60 DAYS", x.days(60), 50 * 5 + 99 * 3);
        OneBreath y = new OneBreath();
        for (int i = 0; i < 8; i++) {
            y.bell(0, 99, 0);
        }
        Due.is("29: the most", y.days(60), 792);
        Due.is("29: no draw", y.count(7), 1);
        OneBreath z = new OneBreath();
        z.image();
        z.bell(300, 99, 0);
        z.bell(300, 99, 0);
        z.restore();
        z.bell(0, 7, 0);
        Due.is("29: nothing of BELLS that are gone", z.days(60), 7);
        Due.is("29: nor do they draw", z.count(7), 1);
    }

    private static void draws() {
        Doc.term("DRAWS: z is told (1 at first); each makes it z * 1103515245 + 12345 (an int), and gives z >>> 8");
        int[][] rows = {{1, 1103527590, 5}, {0, 12345, 6}, {-1, -1103502900, 0}, {MAX, 1043980748, 3}, {MIN, -2147471303, 3},
            {77, -928659710, 6}, {3, -984409216, 4}, {6, -1968830777, 1}, {5, 1222621274, 2}};
        for (int[] row : rows) {
            OneBreath x = new OneBreath();
            x.bell(300, 50, 0);
            x.seed(row[0]);
            x.days(1);
            Due.is("29: z after " + row[0], x.count(7), row[1]);
            Due.is("29: the draw of " + row[0], x.ofBell(0, 2), 47 + row[2]);
        }
    }

    private static void ahead() {
        Doc.term("AHEAD by n (0 to 60) DAYS: as so many would go by");
        Doc.promise(30, "AHEAD by n: the SPOT of a BELL");
        OneBreath x = new OneBreath();
        for (int i = 0; i < 8; i++) {
            x.bell(i % 2 == 0 ? 300 : 600, 10 * i, 0);
        }
        x.seed(-5);
        for (int i = 0; i < 8; i++) {
            Due.is("30: AHEAD by 0", x.then(0, i), 10 * i);
        }
        int[] then = new int[8];
        for (int i = 0; i < 8; i++) {
            then[i] = x.then(60, i);
        }
        for (int i = 0; i < 8; i++) {
            Due.is("30: each stays where it is", x.ofBell(i, 2), 10 * i);
        }
        Due.is("30: z stays", x.count(7), -5);
        x.days(60);
        for (int i = 0; i < 8; i++) {
            Due.is("30: as 60 DAYS go by", x.ofBell(i, 2), then[i]);
        }
        OneBreath y = new OneBreath();
        y.bell(300, 50, 0);
        y.bell(0, 40, 0);
        Due.is("30: a DAY of z 1", y.then(1, 0), 52);
        Due.is("30: what doesn't graze", y.then(60, 1), 40);
        Due.is("30: again", y.then(1, 0), 52);
    }

    private static void seed() {
        Doc.promise(31, "z becomes v: what it was (any number)");
        OneBreath x = new OneBreath();
        int was = 1;
        for (int v : new int[] {0, -1, MAX, MIN, Due.BEYOND, Due.KIND, 1}) {
            Due.is("31: what it was", x.seed(v), was);
            Due.is("31: what it is", x.count(7), v);
            was = v;
        }
        for (int k = 1; k <= 5; k++) {
            Due.is("31: no ERROR", x.told(k), 0);
        }
    }

    /** 8 BELLS, all HEARD at 10 EARS. */
    private static void aFullValley() {
        OneBreath x = heap(8);
        for (int i = 1; i < 10; i++) {
            x.ear(50 + i % 2);
        }
        Due.is("23: of a full valley", x.silence(0, 0), 127);
        Due.is("24: of a full valley", x.winds(0), 0);
        Due.is("25: of a full valley", x.holds(7, 0, 0), -4);
        Due.is("25: of a full valley, in no WIND", x.holds(7, 0, 1), 0);
        Due.is("27: of a full valley", x.hangs(50, 0), 0);
        Due.is("28: of a full valley", x.place(0, 1), 99);
        OneBreath y = Refusals.full();
        Due.is("26: of a full valley, above", y.chance(3, 12, 0), 0);
        Due.is("26: of a full valley, below", y.chance(6, 12, 1), 1);
        y.change(3, 4, 150);
        // BELL 5 strikes at 150, too, and wherever the COW is, there is an EAR halfway between them.
        Due.is("26: of a full valley with a CLASH, above", y.chance(3, 12, 0), 1);
        Due.is("26: of a full valley with a CLASH, below", y.chance(3, 12, 1), 1);
        Due.is("30: of a full valley", y.then(0, 7), 50);
    }

    /** What would be is asked for, and nothing becomes so. */
    private static void nothingStays() {
        Due.Call[] asked = {x -> x.silence(12, 0), x -> x.winds(12), x -> x.holds(1, 12, 0), x -> x.chance(1, 12, 0),
            x -> x.hangs(50, 12), x -> x.place(12, 0), x -> x.then(60, 1), x -> x.quiet(0), x -> x.apart(0, 1, 12),
            x -> x.slate(1, 12, 1), x -> x.least(12), x -> x.clashes(12, 0), x -> x.clash(1, 12), x -> x.heard(0, 12),
            x -> x.way(1, 1, 3), x -> x.law(0, 1, 2, 3, 4), x -> x.law(1, 1, 2, 3, 4), x -> x.count(0), x -> x.told(1),
            x -> x.strikes(0, 0), x -> x.as(0, 0), x -> x.ofBell(0, 0), x -> x.trace(0)};
        String due = Twins.everything(Refusals.valley());
        for (int i = 0; i < asked.length; i++) {
            OneBreath x = Refusals.valley();
            asked[i].on(x);
            Due.is("what is asked for, " + i + ", changes nothing", Twins.everything(x), due);
        }
    }
}
