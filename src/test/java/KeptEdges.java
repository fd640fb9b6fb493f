/** Voices, sheets, images, what is told: promises 32 to 42 with their terms, at their edges. */
final class KeptEdges {
    private static final int MAX = Integer.MAX_VALUE;
    private static final int MIN = Integer.MIN_VALUE;

    private KeptEdges() {
    }

    static void all() {
        voices();
        bodies();
        voicesAround();
        trace();
        sheets();
        puts();
        moves();
        image();
        imageHasAll();
        imageHasNot();
        restore();
        waiting();
        check();
        checkOfAFullValley();
        counts();
        told();
        wholeLife();
    }

    /** BELLS 0 to 6 of KINDS 0 to 6, m 23, 22, .. 17; BELL 7 is a COW of m 0. */
    private static OneBreath kinds() {
        OneBreath x = new OneBreath();
        for (int kind = 0; kind < 7; kind++) {
            x.bell(100 * kind + 23 - kind, 50, 50);
        }
        x.bell(300, 50, 50);
        return x;
    }

    private static void said(int bell, int act, int v, int due, int... bodies) {
        OneBreath x = kinds();
        String what = "voice(" + bell + ", " + act + ", " + v + ")";
        Due.is("32: " + what, x.voice(bell, act, v), due);
        Due.is("33: BODIES of " + what, x.count(6), bodies.length);
        for (int i = 0; i < bodies.length; i++) {
            Due.is("33: trace(" + i + ") of " + what, x.trace(i), bodies[i]);
        }
    }

    private static void voices() {
        Doc.term("VOICES of a BELL, with a number x (ints that go round); n is its number, m as told: 0 rings, 1 swings");
        Doc.promise(32, "A VOICE of a BELL: any number");
        said(7, 0, 0, 7, 10);
        said(7, 1, 0, 14, 11, 10);
        said(7, 2, 0, 0, 40, 12);
        said(7, 3, 0, 14, 13, 11, 10, 40, 12);
        said(0, 0, 0, 0, 10);
        said(0, 2, 0, -23, 12);
        OneBreath x = kinds();
        x.change(7, 6, 1);
        Due.is("32: of a SILENT one", x.voice(7, 1, 0), 14);
    }

    private static void bodies() {
        Doc.term("BODIES: BELL: 10 rings: x + n");
        said(1, 0, 100, 101, 10);
        Doc.term("11 swings: rings(x) * 2");
        said(3, 1, 100, 206, 11, 10);
        said(2, 1, 100, 612, 11, 30, 10);
        Doc.term("12 hums: x - m");
        said(1, 2, 100, 78, 12);
        Doc.term("13 tells: swings(x) ^ hums(x)");
        said(0, 3, 100, 200 ^ 77, 13, 11, 10, 12);
        Doc.term("CHURCH: 20 swings: super.swings(x) - hums(1)");
        said(1, 1, 100, 202 - (1 - 22), 20, 11, 10, 12);
        Doc.term("SCHOOL: 30 rings: super.rings(x) * 3");
        said(2, 0, 100, 306, 30, 10);
        Doc.term("COW: 40 hums: -super.hums(x)");
        said(3, 2, 100, -80, 40, 12);
        Doc.term("TOWER: 50 swings: super.swings(x + 1)");
        said(4, 1, 100, 2 * 105 - (1 - 19), 50, 20, 11, 10, 12);
        Doc.term("FEAST: 60 tells: super.tells(x) - rings(2)");
        said(5, 3, 100, ((210 - (1 - 18)) ^ 82) - 7, 60, 13, 20, 11, 10, 12, 12, 10);
        Doc.term("STRAY: 70 hums: super.hums(x) ^ n");
        said(6, 2, 100, -83 ^ 6, 70, 40, 12);
        Doc.term("71 tells: swings(x) - super.tells(x)");
        said(6, 3, 100, 212 - (212 ^ -83 ^ 6), 71, 11, 10, 13, 11, 10, 70, 40, 12);
        Doc.term("rings(..) is the BODY of its KIND, or of the next KIND above that has one");
        said(5, 1, 100, 210 - (1 - 18), 20, 11, 10, 12);
        said(4, 3, 100, (210 + 18) ^ 81, 13, 50, 20, 11, 10, 12, 12);
        said(6, 1, 100, 212, 11, 10);
        said(2, 2, 100, 79, 12);
        said(2, 3, 100, 612 ^ 79, 13, 11, 30, 10, 12);
    }

    private static void voicesAround() {
        said(1, 0, MAX, MIN, 10);
        said(7, 0, MAX, MIN + 6, 10);
        said(0, 2, MIN, MAX - 22, 12);
        said(0, 1, MAX, -2, 11, 10);
        said(0, 1, MIN, 0, 11, 10);
        said(2, 0, MAX, MIN + 3, 30, 10);
        said(4, 1, MAX, 2 * (MIN + 4) + 18, 50, 20, 11, 10, 12);
        said(7, 2, MIN, MIN, 40, 12);
        said(0, 0, Due.BEYOND, Due.BEYOND, 10);
        OneBreath x = kinds();
        x.voice(0, 0, Due.KIND);
        for (int k = 1; k <= 5; k++) {
            Due.is("32: any number is no ERROR", x.told(k), 0);
        }
    }

    private static void trace() {
        Doc.term("THE TRACE: the numbers of BODIES of the latest voice(), as they began (what stands left is worked out first)");
        Doc.promise(33, "THE TRACE's i-th");
        OneBreath x = kinds();
        Due.is("33: none at first", x.trace(0), Due.NONE);
        Due.is("33: none at first", x.count(6), 0);
        int longest = 0;
        for (int bell = 0; bell < 8; bell++) {
            for (int act = 0; act < 4; act++) {
                x.voice(bell, act, 5);
                longest = Math.max(longest, x.count(6));
            }
        }
        Due.is("33: the longest, far from 40", longest, 9);
        x.voice(6, 3, 5);
        Due.is("33: its last", x.trace(8), 12);
        Due.is("33: behind its last", x.trace(9), Due.NONE);
        x.voice(0, 0, 5);
        Due.is("33: of the latest alone", x.trace(0), 10);
        Due.is("33: nothing of one ahead", x.trace(1), Due.NONE);
        Due.is("33: a voice that is refused", x.voice(0, 4, 5), Due.BEYOND);
        Due.is("33: leaves it", x.trace(0), 10);
        Due.is("33: before its first", x.trace(-1), Due.NONE);
    }

    /** The SPOTS of EARS that come from a SHEET; the valley has a BELL at 0, and goes back to what it was. */
    private static String row(OneBreath x, int sheet) {
        x.image();
        int had = x.count(1);
        int came = x.ears(sheet);
        StringBuilder row = new StringBuilder();
        for (int i = 0; i < came; i++) {
            row.append(x.way(0, had + i, 0)).append(' ');
        }
        x.restore();
        return row.toString().strip();
    }

    private static OneBreath bellAtZero() {
        OneBreath x = new OneBreath();
        x.bell(0, 0, 0);
        return x;
    }

    private static void sheets() {
        Doc.term("SHEETS 0 .. 3 are rows of 8, 16, 32 bits, at most 40 numbers, or missing (as at first)");
        Doc.promise(34, "A SHEET has n numbers, all 0, of so many bits (8, 16, 32; 0: it is missing, n doesn't matter): 1");
        for (int sheet = 0; sheet < 4; sheet++) {
            OneBreath x = bellAtZero();
            Due.is("34: missing at first", x.put(sheet, 0, 0), Due.NONE);
            for (int bits = 8; bits <= 32; bits *= 2) {
                Due.is("34: 40 numbers", x.sheet(sheet, bits, 40), 1);
                Due.is("34: the last", x.put(sheet, 39, 7), 1);
                Due.is("34: behind it", x.put(sheet, 40, 7), Due.BEYOND);
                for (int i = 0; i < 40; i++) {
                    x.put(sheet, i, 44);
                }
                Due.is("34: anew", x.sheet(sheet, bits, 3), 1);
                Due.is("34: all 0", row(x, sheet), "0 0 0");
                Due.is("34: n 0", x.sheet(sheet, bits, 0), 1);
                Due.is("34: no numbers", x.put(sheet, 0, 7), Due.BEYOND);
                Due.is("34: but not missing", x.ears(sheet), 0);
            }
            Due.is("34: missing, n beyond", x.sheet(sheet, 0, 41), 1);
            Due.is("34: it is so", x.ears(sheet), Due.NONE);
            Due.is("34: missing again, n below", x.sheet(sheet, 0, -1), 1);
            Due.is("34: it is so", x.ears(sheet), Due.NONE);
            Due.is("34: there again", x.sheet(sheet, 8, 2), 1);
            Due.is("34: all 0 again", row(x, sheet), "0 0");
        }
        OneBreath y = bellAtZero();
        y.sheet(0, 8, 10);
        for (int i = 0; i < 10; i++) {
            y.put(0, i, 9);
        }
        y.sheet(0, 32, 10);
        Due.is("34: all 0 of other bits", row(y, 0), "0 0 0 0 0 0 0 0 0 0");
    }

    private static void puts() {
        Doc.promise(35, "Number i of a SHEET becomes v (its lowest bits): 1");
        OneBreath x = bellAtZero();
        int[] bits = {8, 16, 32};
        for (int sheet = 0; sheet < 3; sheet++) {
            x.sheet(sheet, bits[sheet], 2);
            Due.is("35: the first", x.put(sheet, 0, 99), 1);
            Due.is("35: the last", x.put(sheet, 1, 1), 1);
            Due.is("35: both", row(x, sheet), "99 1");
        }
        cut(x, 256 + 5, "5", "", "");
        cut(x, 255, "", "", "");
        cut(x, 65536 + 5, "5", "5", "");
        cut(x, -1, "", "", "");
        cut(x, MIN, "0", "0", "");
        cut(x, MIN + 7, "7", "7", "");
        cut(x, -256 + 6, "6", "", "");
        cut(x, -65536 + 6, "6", "6", "");
        cut(x, 99, "99", "99", "99");
        cut(x, 100, "", "", "");
    }

    /** What of v stands in a SHEET of 8, 16, 32 bits, if it is a SPOT. */
    private static void cut(OneBreath x, int v, String... due) {
        for (int sheet = 0; sheet < 3; sheet++) {
            x.sheet(sheet, 8 << sheet, 1);
            Due.is("35: put", x.put(sheet, 0, v), 1);
            Due.is("35: of " + v + " in SHEET " + sheet, row(x, sheet), due[sheet]);
        }
    }

    /** SHEETS 0: 1 2 3 4 5; 1: 11 12 13; of 16 bits both. */
    private static void moved(int from, int i, int to, int j, int n, String first, String second) {
        OneBreath x = bellAtZero();
        x.sheet(0, 16, 5);
        for (int k = 0; k < 5; k++) {
            x.put(0, k, k + 1);
        }
        x.sheet(1, 16, 3);
        for (int k = 0; k < 3; k++) {
            x.put(1, k, k + 11);
        }
        Due.is("36: how many", x.move(from, i, to, j, n), n);
        Due.is("36: SHEET 0", row(x, 0), first);
        Due.is("36: SHEET 1", row(x, 1), second);
    }

    private static void moves() {
        Doc.promise(36, "n numbers of a SHEET, from number i on, come to another one (or the same), from its number j on, as they");
        moved(0, 0, 1, 0, 3, "1 2 3 4 5", "1 2 3");
        moved(0, 2, 1, 0, 3, "1 2 3 4 5", "3 4 5");
        moved(1, 0, 0, 2, 3, "1 2 11 12 13", "11 12 13");
        moved(1, 2, 0, 4, 1, "1 2 3 4 13", "11 12 13");
        moved(0, 0, 1, 0, 0, "1 2 3 4 5", "11 12 13");
        moved(0, 5, 1, 3, 0, "1 2 3 4 5", "11 12 13");
        moved(0, 0, 0, 0, 5, "1 2 3 4 5", "11 12 13");
        moved(0, 0, 0, 1, 4, "1 1 2 3 4", "11 12 13");
        moved(0, 1, 0, 0, 4, "2 3 4 5 5", "11 12 13");
        moved(0, 0, 0, 3, 2, "1 2 3 1 2", "11 12 13");
        OneBreath x = bellAtZero();
        x.sheet(0, 8, 40);
        x.sheet(3, 8, 40);
        for (int i = 0; i < 40; i++) {
            x.put(0, i, 2 * i);
        }
        Due.is("36: all 40", x.move(0, 0, 3, 0, 40), 40);
        Due.is("36: as far as there is room", row(x, 3), "0 2 4 6 8 10 12 14 16 18");
        Due.is("36: the last to the first", x.move(3, 39, 3, 0, 1), 1);
        Due.is("36: it came", row(x, 3), "78 2 4 6 8 10 12 14 16 18");
        Due.is("36: all but one, by one", x.move(3, 0, 3, 1, 39), 39);
        Due.is("36: as they all were", row(x, 3), "78 78 2 4 6 8 10 12 14 16");
        Due.is("36: the other SHEET stays", row(x, 0), "0 2 4 6 8 10 12 14 16 18");
    }

    private static void image() {
        Doc.promise(37, "All (but SHEETS, THE TRACE, what told() tells, and how often this was done) is kept as an IMAGE");
        OneBreath x = new OneBreath();
        for (int i = 1; i <= 9; i++) {
            Due.is("37: how often", x.image(), i);
        }
        x.bell(0, 0, 0);
        x.restore();
        Due.is("37: how often isn't kept", x.image(), 10);
        x.bell(0, 1, 2);
        Due.is("37: in place of one ahead", x.image(), 11);
        x.bell(0, 3, 4);
        Due.is("38: the latest", x.restore(), 1);
        Due.is("38: the latest", x.ofBell(0, 2), 1);
    }

    /** Each part of all by itself, changed behind the IMAGE. */
    private static void imageHasAll() {
        Due.Call[] changes = {x -> x.hill(45, 7), x -> x.hill(0, 1), x -> x.hill(99, 1), x -> x.set(0, -4), x -> x.set(1, 0),
            x -> x.set(2, 300), x -> x.bell(0, 0, 0), x -> x.change(0, 2, 9), x -> x.change(1, 3, 9),
            x -> x.change(2, 4, 9), x -> x.change(0, 5, 8), x -> x.change(0, 6, 1), x -> x.ear(0), x -> x.ears(0),
            x -> x.feed('*', 1), x -> x.text(0), x -> x.text(1), x -> x.hang(12), x -> x.days(7), x -> x.seed(0),
            x -> x.tell(0), x -> x.check(0)};
        String due = Twins.everything(kept());
        for (int i = 0; i < changes.length; i++) {
            OneBreath x = kept();
            changes[i].on(x);
            x.restore();
            Due.is("38: all is as it was, change " + i, Twins.everything(x), due);
        }
        theLatestTextsAndNumbers();
    }

    /** A valley as its IMAGE has it. */
    private static OneBreath kept() {
        OneBreath x = Refusals.valley();
        x.change(2, 6, 1);
        x.change(2, 3, 79);
        x.image();
        return x;
    }

    private static void theLatestTextsAndNumbers() {
        OneBreath x = Refusals.valley();
        x.text(0);
        Due.text(x, 0, "l*5");
        Due.text(x, 1, "s*5");
        Due.feed(x, "d+3");
        x.check(0);
        x.tell(900);
        x.tell(-900);
        x.tell(0);
        x.image();
        x.text(0);
        Due.text(x, 0, "l*6");
        Due.text(x, 1, "s*6");
        Due.feed(x, "d+4");
        x.check(0);
        x.tell(901);
        x.restore();
        Due.is("38: CARRIES", x.law(0, 7, 1, 1, 1), 35);
        Due.is("38: GRAZES", x.law(1, 7, 1, 1, 1), 35);
        Due.is("38: as many as waited", x.count(5), 3);
        Due.is("38: and the same ones", x.check(12), 0);
        Due.is("38: THE TAPE", x.text(0), 1);
        Due.is("38: as it was", x.law(0, 0, 7, 0, 0), 10);
    }

    private static void imageHasNot() {
        OneBreath x = bellAtZero();
        x.sheet(0, 8, 1);
        x.voice(0, 0, 0);
        x.image();
        x.sheet(0, 8, 2);
        x.put(0, 1, 9);
        x.sheet(1, 16, 1);
        x.voice(0, 3, 0);
        x.hill(-1, 0);
        x.restore();
        Due.is("38: SHEETS stay", x.put(0, 1, 9), 1);
        Due.is("38: so does a new one", x.put(1, 0, 0), 1);
        Due.is("38: THE TRACE stays", x.count(6), 4);
        Due.is("38: its first", x.trace(0), 13);
        Due.is("38: what told() tells stays", x.told(1), 1);
        Due.is("38: its numbers, too", row(x, 0), "0 9");
    }

    private static void restore() {
        Doc.promise(38, "All is as the IMAGE has it, which stays: how many BELLS");
        OneBreath x = Refusals.full();
        Due.is("38: no BELLS", x.restore(), 0);
        Due.is("38: one EAR", x.count(1), 1);
        Due.is("38: THE TAPE is empty", x.count(4), 0);
        Due.is("38: none wait", x.count(5), 0);
        for (int i = 0; i < 8; i++) {
            Due.is("38: room for BELLS", x.bell(0, i, i), i);
        }
        x.image();
        x.change(7, 2, 99);
        Due.is("38: 8 BELLS", x.restore(), 8);
        x.change(7, 2, 98);
        Due.is("38: which stays", x.restore(), 8);
        Due.is("38: as it has it", x.ofBell(7, 2), 7);
        Due.is("38: again", x.restore(), 8);
    }

    private static void waiting() {
        Doc.promise(39, "One more number waits: how many");
        OneBreath x = new OneBreath();
        for (int i = 1; i <= 20; i++) {
            Due.is("39: how many", x.tell(i % 2 == 0 ? MIN : MAX), i);
            Due.is("39: how many wait", x.count(5), i);
        }
        Due.is("39: 20 wait", x.tell(0), Due.FULL);
        Due.is("39: 20 wait still", x.count(5), 20);
        Due.is("40: none do then", x.check(0), 1);
        Due.is("39: room again", x.tell(0), 1);
    }

    /** Four BELLS and an EAR at SPOT 50, BREATH 3; BELL 2 doesn't strike at 12. */
    private static void checked(String what, int due, int... numbers) {
        OneBreath x = new OneBreath();
        x.bell(0, 50, 90);
        x.bell(0, 50, 90);
        x.bell(612, 50, 90);
        x.bell(0, 50, 90);
        x.ear(50);
        for (int number : numbers) {
            x.tell(number);
        }
        Due.is("40: " + what, x.check(12), due);
        Due.is("40: none wait then", x.count(5), 0);
        for (int i = 0; i < 4; i++) {
            Due.is("40: OFFSETS stay", x.ofBell(i, 4), 0);
        }
    }

    private static void check() {
        Doc.promise(40, "The numbers that wait (none do then) are OFFSETS of BELLS 0, 1, .. (one for each, -900 to 900)");
        checked("just apart", 0, 0, 4, 4, 8);
        checked("just apart, below", 0, 0, -4, 0, -8);
        checked("a BREATH apart, the second", 2, 0, 3, 4, 8);
        checked("a BREATH apart, the last", 4, 0, 4, 4, 7);
        checked("the last with the first", 4, 0, 9, 9, 3);
        checked("one that doesn't strike, with all others", 0, 0, 50, 0, 100);
        checked("the least and the greatest", 0, -900, 900, -900, 0);
        checked("below the least, the first", 1, -901, 900, 0, 0);
        checked("above the greatest, the last", 4, 0, 4, 0, 901);
        checked("beyond, of one that doesn't strike", 3, 0, 4, 901, 8);
        checked("far beyond", 1, MIN, 4, 0, 8);
        checked("far beyond, the second", 2, 0, MAX, 0, 8);
        checked("none at all", 1);
        checked("one is missing", 4, 0, 4, 8);
        checked("three are missing", 2, 0);
        checked("one too many", 5, 0, 4, 4, 8, 12);
        checked("one too many, which is no such number", 5, 0, 4, 4, 8, 901);
        checked("a CLASH ahead of one too many", 2, 0, 0, 4, 8, 12);
        checked("a CLASH ahead of one that is missing", 2, 0, 0);
        checked("no such number ahead of one that is missing", 1, 901);
        checked("20 of them", 5, 0, 4, 4, 8, 12, 16, 20, 24, 28, 32, 36, 40, 44, 48, 52, 56, 60, 64, 68, 72);
        OneBreath x = new OneBreath();
        Due.is("40: no BELLS, no numbers", x.check(0), 0);
        x.tell(0);
        Due.is("40: no BELLS, one number", x.check(0), 1);
        OneBreath y = new OneBreath();
        y.bell(0, 50, 90);
        y.tell(0);
        Due.is("40: one BELL, one number", y.check(23), 0);
        y.tell(5);
        Due.is("40: the HOUR is beyond", y.check(24), Due.BEYOND);
        Due.is("40: none wait then, too", y.count(5), 0);
    }

    private static void checkOfAFullValley() {
        OneBreath x = Refusals.full();
        x.check(0);
        for (int i = 0; i < 8; i++) {
            x.tell(4 * i);
        }
        Due.is("40: 8 that are just apart", x.check(12), 0);
        for (int i = 0; i < 8; i++) {
            x.tell(4 * i - i / 7);
        }
        Due.is("40: but for the last", x.check(12), 8);
        for (int i = 0; i < 9; i++) {
            x.tell(4 * i);
        }
        Due.is("40: 9 for 8", x.check(12), 9);
        for (int i = 0; i < 7; i++) {
            x.tell(4 * i);
        }
        Due.is("40: 7 for 8", x.check(12), 8);
    }

    private static void counts() {
        Doc.promise(41, "0 BELLS, 1 EARS, 2 those SILENT, 3 WIND, 4 bytes of THE TAPE, 5 numbers that wait, 6 BODIES in THE TRACE");
        OneBreath x = Refusals.full();
        x.set(0, -5);
        x.seed(Due.NONE);
        x.voice(6, 3, 1);
        for (int i = 0; i < 8; i++) {
            Due.is("41: those SILENT", x.count(2), i);
            x.change(i, 6, 1);
        }
        int[] counts = {8, 10, 8, -5, 50, 20, 9, Due.NONE};
        for (int what = 0; what <= 7; what++) {
            Due.is("41: of a full valley, count(" + what + ")", x.count(what), counts[what]);
        }
        Due.is("41: any number is no ERROR", x.told(2), 0);
        x.change(3, 6, 0);
        Due.is("41: one less", x.count(2), 7);
    }

    private static void told() {
        OneBreath x = new OneBreath();
        for (int k = 1; k <= 5; k++) {
            Due.is("42: none so far", x.told(k), 0);
        }
        for (int i = 1; i <= 3; i++) {
            Due.is("42: another k", x.told(0), Due.BEYOND);
            Due.is("42: another k", x.told(6), Due.BEYOND);
            Due.is("42: counted, too", x.told(1), 2 * i);
        }
        for (int k = 2; k <= 5; k++) {
            Due.is("42: of no other k", x.told(k), 0);
        }
        Due.is("42: NONE", x.trace(0), Due.NONE);
        Due.is("42: one NONE", x.told(2), 1);
        Due.is("42: a FAULT is none", x.text(0), -10);
        Due.is("42: -1 is none", x.clashes(0, 1), -1);
        Due.is("42: BEYOND as before", x.told(1), 6);
        Due.is("42: NONE as before", x.told(2), 1);
        for (int i = 0; i < 100; i++) {
            x.restore();
        }
        Due.is("42: many", x.told(2), 101);
    }

    /** An object in its 512 calls, of which the last answers as any other does. */
    private static void wholeLife() {
        Doc.opening("No two bells in one breath");
        Doc.opening("An object is used for at most 512 calls after it has been made; what later calls answer is free");
        OneBreath x = new OneBreath();
        x.bell(0, 20, 60);
        x.bell(100, 25, 70);
        x.ear(22);
        for (int i = 0; i < 101; i++) {
            Due.is("two in one breath", x.clashes(12, 1), 100);
            Due.is("a slate becomes so", x.hang(12), 2);
            Due.is("no two in one breath", x.clashes(12, 1), -1);
            Due.is("OFFSET of the one", x.change(0, 4, 0), -60);
            Due.is("OFFSET of the other", x.change(1, 4, 0), -59);
        }
        Due.is("the 509th call", x.restore(), Due.NONE);
        Due.is("the 510th call", x.image(), 1);
        Due.is("the 511th call", x.told(2), 1);
        Due.is("the 512th call", x.clashes(12, 1), 100);
    }
}
