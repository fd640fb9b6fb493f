import java.lang.reflect.InvocationTargetException;
import java.lang.reflect.Method;
import java.lang.reflect.Modifier;

/** Calls that are refused, at both ends of all that each act takes, in the order in which it asks; and what they leave. */
final class Refusals {
    private static final int MAX = Integer.MAX_VALUE;
    private static final int MIN = Integer.MIN_VALUE;

    /** An act with one number left open. */
    private interface Act {
        int on(OneBreath x, int v);
    }

    private Refusals() {
    }

    static void all() {
        errors();
        theValley();
        earsAndTexts();
        clashesAndSlates();
        trials();
        daysAndVoices();
        sheets();
        kept();
        orders();
        fullOnes();
        emptyOnes();
        neverThrows();
    }

    /** Three BELLS, two EARS, SHEETS 0 to 2, an IMAGE of less, nothing as at first. */
    static OneBreath valley() {
        OneBreath x = new OneBreath();
        x.bell(5, 1, 30);
        x.ear(3);
        x.hill(6, 4);
        x.tell(44);
        x.feed('d', 1);
        x.image();
        x.text(0);
        Due.text(x, 0, "l*2-d-h+w");
        Due.text(x, 1, "s+m-r");
        x.bell(303, 40, 70);
        x.bell(405, 60, 80);
        x.ear(50);
        x.hill(45, 2);
        x.set(0, 1);
        x.set(1, 4);
        x.set(2, 70);
        x.change(0, 4, -7);
        x.change(1, 5, 9);
        x.check(0);
        x.tell(-100);
        x.tell(100);
        x.tell(300);
        x.seed(77);
        x.voice(1, 3, 7);
        rows(x, new int[] {8, 8, 16}, new int[] {4, 5, 2});
        Due.feed(x, "l+2");
        return x;
    }

    /** 8 BELLS, 10 EARS, 50 bytes, 20 numbers that wait, four SHEETS of 40; an IMAGE of an EAR alone. */
    static OneBreath full() {
        OneBreath x = new OneBreath();
        x.ear(9);
        x.image();
        int[] kms = {0, 101, 202, 303, 404, 512, 607, 7};
        for (int i = 0; i < 8; i++) {
            x.bell(kms[i], 50, 99);
            x.change(i, 4, 100 * i - 350);
        }
        for (int i = 1; i < 10; i++) {
            x.ear(45 + i);
        }
        for (int i = 0; i < 20; i++) {
            x.tell(i);
        }
        rows(x, new int[] {8, 16, 32, 8}, new int[] {40, 40, 40, 40});
        Due.feed(x, "l+l+l+l+l+l+l+l+l+l+l+l+l+l+l+l+l+l+l+l+l+l+l+l+10");
        return x;
    }

    private static void rows(OneBreath x, int[] bits, int[] sizes) {
        for (int sheet = 0; sheet < bits.length; sheet++) {
            x.sheet(sheet, bits[sheet], sizes[sheet]);
            for (int i = 0; i < 4 && i < sizes[sheet]; i++) {
                x.put(sheet, i, 10 * sheet + i + 1);
            }
        }
    }

    private static void beyond(int promise, String what, Act act, int... wrong) {
        Doc.promise(promise, "BEYOND");
        for (int v : wrong) {
            Twins.refuse(promise + ": " + what.replace("..", "" + v), Refusals::valley, Due.BEYOND, x -> act.on(x, v));
        }
    }

    private static void taken(int promise, String what, Act act, int... right) {
        for (int v : right) {
            Twins.take(promise + ": " + what.replace("..", "" + v), Refusals::valley, x -> act.on(x, v));
        }
    }

    /** Both ends are taken; what is one beyond them, or far beyond, is refused. */
    private static void range(int promise, String what, int lowest, int highest, Act act) {
        taken(promise, what, act, lowest, highest);
        beyond(promise, what, act, lowest - 1, highest + 1, MIN, MAX);
    }

    private static void errors() {
        Doc.term("ERRORS are answers below -1000000000");
        OneBreath x = full();
        Due.is("BEYOND", x.hill(-1, 0), -1000000001);
        Due.is("NONE", new OneBreath().restore(), -1000000002);
        Due.is("STATE", x.sheet(0, 8, -1), -1000000003);
        Due.is("FULL", x.tell(0), -1000000004);
        Due.is("KIND", x.as(0, 1), -1000000005);
    }

    private static void theValley() {
        range(2, "hill(.., 3)", 0, 99, (x, v) -> x.hill(v, 3));
        range(2, "hill(45, ..)", 0, 9, (x, v) -> x.hill(45, v));
        range(3, "set(.., 1)", 0, 2, (x, v) -> x.set(v, 1));
        range(3, "set(0, ..)", -5, 5, (x, v) -> x.set(0, v));
        range(3, "set(1, ..)", 0, 30, (x, v) -> x.set(1, v));
        range(3, "set(2, ..)", 0, 300, (x, v) -> x.set(2, v));
        taken(4, "bell(.., 1, 1)", (x, v) -> x.bell(v, 1, 1), 0, 23, 100, 123, 600, 623);
        beyond(4, "bell(.., 1, 1)", (x, v) -> x.bell(v, 1, 1), -1, -23, -100, 24, 99, 124, 199, 624, 699, 700, 723, MIN, MAX);
        range(4, "bell(1, .., 1)", 0, 99, (x, v) -> x.bell(1, v, 1));
        range(4, "bell(1, 1, ..)", 0, 99, (x, v) -> x.bell(1, 1, v));
        range(5, "ofBell(.., 3)", 0, 2, (x, v) -> x.ofBell(v, 3));
        range(5, "ofBell(1, ..)", 0, 6, (x, v) -> x.ofBell(1, v));
        range(6, "change(.., 6, 1)", 0, 2, (x, v) -> x.change(v, 6, 1));
        range(6, "change(1, .., 1)", 2, 6, (x, v) -> x.change(1, v, 1));
        range(6, "change(1, 2, ..)", 0, 99, (x, v) -> x.change(1, 2, v));
        range(6, "change(1, 3, ..)", 0, 99, (x, v) -> x.change(1, 3, v));
        range(6, "change(1, 4, ..)", -900, 900, (x, v) -> x.change(1, 4, v));
        range(6, "change(1, 5, ..)", 0, 99, (x, v) -> x.change(1, 5, v));
        range(6, "change(1, 6, ..)", 0, 1, (x, v) -> x.change(1, 6, v));
        range(7, "as(.., 0)", 0, 2, (x, v) -> x.as(v, 0));
        beyond(7, "as(1, ..)", (x, v) -> x.as(1, v), -1, 7, MIN, MAX);
        Doc.promise(7, "KIND: it isn't of that KIND");
        for (int kind : new int[] {1, 2, 4, 5, 6}) {
            Twins.refuse("7: a COW as " + kind, Refusals::valley, Due.KIND, x -> x.as(1, kind));
        }
        range(8, "strikes(.., 9)", 0, 2, (x, v) -> x.strikes(v, 9));
        range(8, "strikes(1, ..)", 0, 23, (x, v) -> x.strikes(1, v));
        range(9, "ear(..)", 0, 99, (x, v) -> x.ear(v));
    }

    private static void earsAndTexts() {
        taken(10, "ears(..)", (x, v) -> x.ears(v), 0, 1, 2);
        beyond(10, "ears(..)", (x, v) -> x.ears(v), -1, 4, MIN, MAX);
        Doc.promise(10, "NONE: it is missing");
        Twins.refuse("10: ears of a missing SHEET", Refusals::valley, Due.NONE, x -> x.ears(3));
        range(11, "way(.., 1, 2)", 0, 2, (x, v) -> x.way(v, 1, 2));
        range(11, "way(1, .., 2)", 0, 1, (x, v) -> x.way(1, v, 2));
        range(11, "way(1, 1, ..)", 0, 4, (x, v) -> x.way(1, 1, v));
        range(12, "heard(.., 9)", 0, 1, (x, v) -> x.heard(v, 9));
        range(12, "heard(1, ..)", 0, 23, (x, v) -> x.heard(1, v));
        range(13, "feed('9', ..)", 1, 8, (x, v) -> x.feed('9', v));
        Doc.promise(14, "BEYOND (THE TAPE stays)");
        range(14, "text(..)", 0, 1, (x, v) -> x.text(v));
        range(15, "law(.., 1, 2, 3, 4)", 0, 1, (x, v) -> x.law(v, 1, 2, 3, 4));
    }

    private static void clashesAndSlates() {
        range(16, "clashes(.., 1)", 0, 23, (x, v) -> x.clashes(v, 1));
        range(16, "clashes(9, ..)", 0, 1, (x, v) -> x.clashes(9, v));
        range(17, "clash(.., 9)", 0, 2, (x, v) -> x.clash(v, 9));
        range(17, "clash(1, ..)", 0, 23, (x, v) -> x.clash(1, v));
        range(18, "quiet(..)", 0, 1, (x, v) -> x.quiet(v));
        taken(19, "apart(.., 1, 12)", (x, v) -> x.apart(v, 1, 12), 0, 2);
        taken(19, "apart(1, .., 12)", (x, v) -> x.apart(1, v, 12), 0, 2);
        beyond(19, "apart(.., 1, 12)", (x, v) -> x.apart(v, 1, 12), -1, 3, MIN, MAX);
        beyond(19, "apart(1, .., 12)", (x, v) -> x.apart(1, v, 12), -1, 3, MIN, MAX);
        range(19, "apart(0, 1, ..)", 0, 23, (x, v) -> x.apart(0, 1, v));
        Doc.promise(19, "BEYOND: also one twice");
        beyond(19, "apart(.., .., 12)", (x, v) -> x.apart(v, v, 12), 0, 1, 2);
        range(20, "slate(.., 12, 0)", 0, 2, (x, v) -> x.slate(v, 12, 0));
        range(20, "slate(1, .., 0)", 0, 23, (x, v) -> x.slate(1, v, 0));
        range(20, "slate(1, 12, ..)", 0, 1, (x, v) -> x.slate(1, 12, v));
        Doc.promise(20, "STATE: it doesn't strike at that HOUR");
        Twins.refuse("20: a TOWER at 5", Refusals::valley, Due.STATE, x -> x.slate(2, 5, 1));
        Twins.refuse("20: a TOWER at 23", Refusals::valley, Due.STATE, x -> x.slate(2, 23, 0));
        range(21, "least(..)", 0, 23, (x, v) -> x.least(v));
        range(22, "hang(..)", 0, 23, (x, v) -> x.hang(v));
    }

    private static void trials() {
        range(23, "silence(.., 1)", 0, 23, (x, v) -> x.silence(v, 1));
        range(23, "silence(9, ..)", 0, 1, (x, v) -> x.silence(9, v));
        range(24, "winds(..)", 0, 23, (x, v) -> x.winds(v));
        range(25, "holds(.., 9, 1)", 0, 2, (x, v) -> x.holds(v, 9, 1));
        range(25, "holds(1, .., 1)", 0, 23, (x, v) -> x.holds(1, v, 1));
        range(25, "holds(1, 9, ..)", 0, 1, (x, v) -> x.holds(1, 9, v));
        beyond(26, "chance(.., 9, 1)", (x, v) -> x.chance(v, 9, 1), -1, 3, MIN, MAX);
        range(26, "chance(1, .., 1)", 0, 23, (x, v) -> x.chance(1, v, 1));
        range(26, "chance(1, 9, ..)", 0, 1, (x, v) -> x.chance(1, 9, v));
        Doc.promise(26, "KIND: the BELL is no COW, nor of a KIND under it");
        Twins.refuse("26: chance of a BELL", Refusals::valley, Due.KIND, x -> x.chance(0, 9, 0));
        Twins.refuse("26: chance of a TOWER", Refusals::valley, Due.KIND, x -> x.chance(2, 9, 1));
        range(27, "hangs(.., 12)", 0, 99, (x, v) -> x.hangs(v, 12));
        range(27, "hangs(9, ..)", 0, 23, (x, v) -> x.hangs(9, v));
        range(28, "place(.., 1)", 0, 23, (x, v) -> x.place(v, 1));
        range(28, "place(12, ..)", 0, 1, (x, v) -> x.place(12, v));
    }

    private static void daysAndVoices() {
        range(29, "days(..)", 1, 60, (x, v) -> x.days(v));
        range(30, "then(.., 1)", 0, 60, (x, v) -> x.then(v, 1));
        range(30, "then(9, ..)", 0, 2, (x, v) -> x.then(9, v));
        taken(31, "seed(..)", (x, v) -> x.seed(v), MIN, -1, 0, MAX, Due.BEYOND);
        range(32, "voice(.., 3, 9)", 0, 2, (x, v) -> x.voice(v, 3, 9));
        range(32, "voice(1, .., 9)", 0, 3, (x, v) -> x.voice(1, v, 9));
        taken(32, "voice(1, 3, ..)", (x, v) -> x.voice(1, 3, v), MIN, -1, 0, MAX, Due.BEYOND);
        Doc.promise(33, "NONE: there is none such");
        taken(33, "trace(..)", (x, v) -> x.trace(v), 0, 4);
        for (int i : new int[] {-1, 5, 39, 40, MIN, MAX}) {
            Twins.refuse("33: trace(" + i + ")", Refusals::valley, Due.NONE, x -> x.trace(i));
        }
    }

    private static void sheets() {
        range(34, "sheet(.., 8, 3)", 0, 3, (x, v) -> x.sheet(v, 8, 3));
        taken(34, "sheet(1, .., 3)", (x, v) -> x.sheet(1, v, 3), 0, 8, 16, 32);
        beyond(34, "sheet(1, .., 3)", (x, v) -> x.sheet(1, v, 3), -1, 1, 7, 9, 15, 17, 24, 31, 33, 64, -8, MIN, MAX);
        Doc.promise(34, "STATE: n is below 0 (ahead of BEYOND of n)");
        for (int bits = 8; bits <= 32; bits *= 2) {
            int as = bits;
            taken(34, "sheet(1, " + bits + ", ..)", (x, v) -> x.sheet(1, as, v), 0, 40);
            beyond(34, "sheet(1, " + bits + ", ..)", (x, v) -> x.sheet(1, as, v), 41, MAX);
            for (int n : new int[] {-1, -40, MIN}) {
                Twins.refuse("34: sheet(1, " + bits + ", " + n + ")", Refusals::valley, Due.STATE, x -> x.sheet(1, as, n));
            }
        }
        taken(34, "sheet(1, 0, ..)", (x, v) -> x.sheet(1, 0, v), MIN, -1, 0, 41, MAX);
        Doc.promise(35, "BEYOND: no such SHEET");
        beyond(35, "put(.., 0, 1)", (x, v) -> x.put(v, 0, 1), -1, 4, MIN, MAX);
        Doc.promise(35, "NONE: it is missing");
        Twins.refuse("35: put into a missing SHEET", Refusals::valley, Due.NONE, x -> x.put(3, 0, 1));
        Doc.promise(35, "BEYOND: no such number");
        range(35, "put(0, .., 1)", 0, 3, (x, v) -> x.put(0, v, 1));
        taken(35, "put(2, 1, ..)", (x, v) -> x.put(2, 1, v), MIN, -1, 0, MAX);
        moves();
    }

    /** SHEETS 0 and 1 have 4 and 5 numbers of 8 bits, 2 has two of 16, 3 is missing. */
    private static void moves() {
        Doc.promise(36, "BEYOND: no such SHEET");
        beyond(36, "move(.., 0, 1, 0, 1)", (x, v) -> x.move(v, 0, 1, 0, 1), -1, 4, MIN, MAX);
        beyond(36, "move(1, 0, .., 0, 1)", (x, v) -> x.move(1, 0, v, 0, 1), -1, 4, MIN, MAX);
        Doc.promise(36, "NONE: one is missing");
        Twins.refuse("36: move from a missing SHEET", Refusals::valley, Due.NONE, x -> x.move(3, 0, 0, 0, 0));
        Twins.refuse("36: move to a missing SHEET", Refusals::valley, Due.NONE, x -> x.move(0, 0, 3, 0, 0));
        Twins.refuse("36: move of a missing SHEET", Refusals::valley, Due.NONE, x -> x.move(3, 0, 3, 0, 0));
        Doc.promise(36, "KIND: they are of unlike bits");
        Twins.refuse("36: move of 8 to 16 bits", Refusals::valley, Due.KIND, x -> x.move(0, 0, 2, 0, 1));
        Twins.refuse("36: move of 16 to 8 bits", Refusals::valley, Due.KIND, x -> x.move(2, 0, 1, 0, 0));
        Doc.promise(36, "BEYOND: n, i, or j is below 0, or they don't stand there");
        range(36, "move(0, 1, 1, 0, ..)", 0, 3, (x, v) -> x.move(0, 1, 1, 0, v));
        range(36, "move(1, 0, 0, 1, ..)", 0, 3, (x, v) -> x.move(1, 0, 0, 1, v));
        range(36, "move(0, .., 1, 0, 2)", 0, 2, (x, v) -> x.move(0, v, 1, 0, 2));
        range(36, "move(0, 0, 1, .., 2)", 0, 3, (x, v) -> x.move(0, 0, 1, v, 2));
        range(36, "move(0, .., 1, 0, 0)", 0, 4, (x, v) -> x.move(0, v, 1, 0, 0));
        range(36, "move(0, 0, 1, .., 0)", 0, 5, (x, v) -> x.move(0, 0, 1, v, 0));
        range(36, "move(1, .., 1, 1, 3)", 0, 2, (x, v) -> x.move(1, v, 1, 1, 3));
        beyond(36, "move(0, .., 1, .., ..)", (x, v) -> x.move(0, v, 1, v, v), -1, 5, 1 << 30, MIN, MAX);
    }

    private static void kept() {
        taken(37, "image()", (x, v) -> x.image(), 0);
        Doc.promise(38, "NONE: there is none");
        Twins.refuse("38: restore() without an IMAGE", OneBreath::new, Due.NONE, x -> x.restore());
        taken(38, "restore()", (x, v) -> x.restore(), 0);
        taken(39, "tell(..)", (x, v) -> x.tell(v), MIN, -901, 0, 901, MAX);
        taken(40, "check(..)", (x, v) -> x.check(v), 0, 23);
        Doc.promise(40, "BEYOND (none wait then, too)");
        for (int hour : new int[] {-1, 24, MIN, MAX}) {
            OneBreath x = valley();
            OneBreath twin = valley();
            twin.check(0);
            Due.is("40: check(" + hour + ")", x.check(hour), Due.BEYOND);
            Due.is("40: then told(1)", x.told(1), 1);
            Due.is("40: none wait then", x.count(5), 0);
            Due.is("40: and nothing else is another", Twins.everything(x), Twins.everything(twin));
        }
        range(41, "count(..)", 0, 7, (x, v) -> x.count(v));
        Doc.promise(42, "How many acts have answered an ERROR");
        for (int k : new int[] {0, 6, -1, MIN, MAX}) {
            Twins.refuse("42: told(" + k + ")", Refusals::valley, Due.BEYOND, x -> x.told(k));
        }
        taken(42, "told(..)", (x, v) -> x.told(v), 1, 5);
    }

    /** Two ERRORS would do, and the one that is asked first is told. */
    private static void orders() {
        Doc.term("Each act tells its ERRORS in the order in which they are asked");
        order("4: KIND beyond, BELLS full", Refusals::full, Due.BEYOND, x -> x.bell(700, 0, 0));
        order("4: m beyond, BELLS full", Refusals::full, Due.BEYOND, x -> x.bell(24, 0, 0));
        order("4: SPOT beyond, BELLS full", Refusals::full, Due.BEYOND, x -> x.bell(0, 100, 0));
        order("4: LOUD beyond, BELLS full", Refusals::full, Due.BEYOND, x -> x.bell(0, 0, 100));
        order("7: no such BELL, and of another KIND", Refusals::valley, Due.BEYOND, x -> x.as(3, 5));
        order("9: SPOT beyond, EARS full", Refusals::full, Due.BEYOND, x -> x.ear(100));
        order("13: n beyond, THE TAPE full", Refusals::full, Due.BEYOND, x -> x.feed(0, 9));
        order("13: n below, THE TAPE full", Refusals::full, Due.BEYOND, x -> x.feed(0, 0));
        order("19: one twice, and HEARD nowhere", Refusals::noEars, Due.BEYOND, x -> x.apart(1, 1, 12));
        order("19: HOUR beyond, and HEARD nowhere", Refusals::noEars, Due.BEYOND, x -> x.apart(0, 1, 24));
        order("20: what beyond, doesn't strike, no slate", Refusals::tight, Due.BEYOND, x -> x.slate(2, 12, 2));
        order("20: HOUR beyond, no slate", Refusals::tight, Due.BEYOND, x -> x.slate(0, 24, 0));
        order("20: what beyond, no slate", Refusals::tight, Due.BEYOND, x -> x.slate(0, 12, -1));
        order("20: doesn't strike, no slate", Refusals::tight, Due.STATE, x -> x.slate(2, 12, 0));
        order("20: no slate", Refusals::tight, Due.NONE, x -> x.slate(0, 12, 0));
        order("20: no slate, the LATEST", Refusals::tight, Due.NONE, x -> x.slate(1, 12, 1));
        order("22: no slate", Refusals::tight, Due.NONE, x -> x.hang(12));
        order("22: HOUR beyond, no slate", Refusals::tight, Due.BEYOND, x -> x.hang(24));
        order("26: HOUR beyond, no COW", Refusals::valley, Due.BEYOND, x -> x.chance(0, 24, 0));
        order("26: part beyond, no COW", Refusals::valley, Due.BEYOND, x -> x.chance(0, 12, 2));
        order("27: SPOT beyond, not even with 0", Refusals::loud, Due.BEYOND, x -> x.hangs(100, 12));
        order("27: HOUR beyond, not even with 0", Refusals::loud, Due.BEYOND, x -> x.hangs(0, 24));
        order("27: not even with 0", Refusals::loud, Due.NONE, x -> x.hangs(0, 12));
        order("28: HOUR beyond, none", Refusals::loud, Due.BEYOND, x -> x.place(24, 0));
        order("28: what beyond, none", Refusals::loud, Due.BEYOND, x -> x.place(12, 2));
        order("28: none", Refusals::loud, Due.NONE, x -> x.place(12, 0));
        order("34: no such SHEET, n below 0", Refusals::valley, Due.BEYOND, x -> x.sheet(4, 8, -1));
        order("34: no such bits, n below 0", Refusals::valley, Due.BEYOND, x -> x.sheet(0, 9, -1));
        order("34: no such SHEET, 0 bits", Refusals::valley, Due.BEYOND, x -> x.sheet(-1, 0, -1));
        order("35: missing, no such number", Refusals::valley, Due.NONE, x -> x.put(3, 40, 1));
        order("36: no such SHEET, one is missing", Refusals::valley, Due.BEYOND, x -> x.move(3, 0, 4, 0, 0));
        order("36: one is missing, no such SHEET", Refusals::valley, Due.BEYOND, x -> x.move(-1, 0, 3, 0, 0));
        order("36: one is missing, n below 0", Refusals::valley, Due.NONE, x -> x.move(3, 0, 0, 0, -1));
        order("36: unlike bits, n below 0", Refusals::valley, Due.KIND, x -> x.move(0, 0, 2, 0, -1));
        order("36: unlike bits, too many", Refusals::valley, Due.KIND, x -> x.move(0, 9, 2, 9, 41));
    }

    private static void order(String what, Due.Made made, int error, Due.Call call) {
        Twins.refuse(what, made, error, call);
    }

    private static OneBreath noEars() {
        OneBreath x = new OneBreath();
        x.bell(0, 10, 90);
        x.bell(0, 10, 90);
        x.bell(500, 10, 90);
        return x;
    }

    /** Two BELLS that can't be set apart; a FEAST at 0 that never strikes. */
    private static OneBreath tight() {
        OneBreath x = noEars();
        x.ear(10);
        x.set(2, 1);
        return x;
    }

    /** HEARD everywhere, whatever LOUD is, within BREATH of a new BELL at each SPOT. */
    private static OneBreath loud() {
        OneBreath x = new OneBreath();
        for (int i = 0; i < 7; i++) {
            x.bell(0, 0, 0);
            x.change(i, 4, 50 * i);
        }
        x.ear(0);
        x.set(1, 30);
        Due.text(x, 0, "1");
        return x;
    }

    private static void fullOnes() {
        Doc.promise(4, "FULL");
        Twins.refuse("4: a ninth BELL", Refusals::full, Due.FULL, x -> x.bell(623, 99, 99));
        Doc.promise(9, "FULL");
        Twins.refuse("9: an eleventh EAR", Refusals::full, Due.FULL, x -> x.ear(99));
        Doc.promise(13, "FULL");
        Twins.refuse("13: a byte more", Refusals::full, Due.FULL, x -> x.feed('0', 1));
        Twins.refuse("13: 8 bytes more", Refusals::full, Due.FULL, x -> x.feed(-1L, 8));
        Doc.promise(39, "FULL: 20 wait");
        Twins.refuse("39: one number more", Refusals::full, Due.FULL, x -> x.tell(0));
        for (int bell : new int[] {-1, 8, MIN, MAX}) {
            Twins.refuse("5: ofBell(" + bell + ") of 8", Refusals::full, Due.BEYOND, x -> x.ofBell(bell, 0));
            Twins.refuse("17: clash(" + bell + ") of 8", Refusals::full, Due.BEYOND, x -> x.clash(bell, 12));
            Twins.refuse("30: then(1, " + bell + ") of 8", Refusals::full, Due.BEYOND, x -> x.then(1, bell));
        }
        for (int ear : new int[] {-1, 10, MIN, MAX}) {
            Twins.refuse("11: way(0, " + ear + ") of 10", Refusals::full, Due.BEYOND, x -> x.way(0, ear, 0));
            Twins.refuse("12: heard(" + ear + ") of 10", Refusals::full, Due.BEYOND, x -> x.heard(ear, 0));
        }
        Twins.refuse("35: put(0, 40) of 40", Refusals::full, Due.BEYOND, x -> x.put(0, 40, 1));
        Twins.take("35: put(0, 39) of 40", Refusals::full, x -> x.put(0, 39, 1));
    }

    /** Without a BELL and an EAR, numbers of these are beyond from 0 on; all else answers. */
    private static void emptyOnes() {
        Due.Call[] refused = {x -> x.ofBell(0, 0), x -> x.change(0, 2, 0), x -> x.as(0, 0), x -> x.strikes(0, 0),
            x -> x.way(0, 0, 0), x -> x.heard(0, 0), x -> x.clash(0, 0), x -> x.apart(0, 1, 0), x -> x.slate(0, 0, 0),
            x -> x.holds(0, 0, 0), x -> x.chance(0, 0, 0), x -> x.then(0, 0), x -> x.voice(0, 0, 0)};
        for (int i = 0; i < refused.length; i++) {
            Twins.refuse("of no BELLS, no EARS, " + i, OneBreath::new, Due.BEYOND, refused[i]);
        }
        OneBreath x = new OneBreath();
        int[] answers = {x.clashes(0, 0), x.clashes(0, 1), x.quiet(0), x.quiet(1), x.least(0), x.hang(0), x.silence(0, 0),
            x.silence(0, 1), x.winds(0), x.hangs(99, 23), x.place(23, 0), x.place(23, 1), x.days(60), x.check(23)};
        int[] due = {0, -1, 0, 0, 0, 0, 0, 0, 2047, 99, 0, 99, 0, 0};
        for (int i = 0; i < due.length; i++) {
            Due.is("an empty valley, " + i, answers[i], due[i]);
        }
    }

    /** Whatever numbers come, in an empty and a full valley, no call throws; ones with many numbers get fewer of each. */
    private static void neverThrows() {
        int[] many = {MIN, -901, -1, 0, 1, 7, 8, 12, 50, 99, 100, MAX};
        int[] few = {MIN, -1, 0, 8, 40, MAX};
        for (Method method : OneBreath.class.getDeclaredMethods()) {
            if (Modifier.isPublic(method.getModifiers())) {
                int[] numbers = method.getParameterCount() > 3 ? few : many;
                throwsNothing(method, numbers, OneBreath::new);
                throwsNothing(method, numbers, Refusals::full);
            }
        }
    }

    private static void throwsNothing(Method method, int[] numbers, Due.Made made) {
        Class<?>[] types = method.getParameterTypes();
        int rows = 1;
        for (int k = 0; k < types.length; k++) {
            rows *= numbers.length;
        }
        OneBreath x = made.object();
        for (int row = 0; row < rows; row++) {
            if (row % 300 == 299) {
                x = made.object();
            }
            Object[] args = new Object[types.length];
            int rest = row;
            for (int k = 0; k < types.length; k++) {
                int v = numbers[rest % numbers.length];
                rest /= numbers.length;
                args[k] = types[k] == long.class ? (Object) (long) v : (Object) v;
            }
            try {
                method.invoke(x, args);
            } catch (InvocationTargetException | IllegalAccessException e) {
                Due.is(method.getName() + java.util.Arrays.toString(args), "" + e.getCause(), "no exception");
            }
        }
    }
}
