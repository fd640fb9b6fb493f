/** Terms 1 and promises 1 to 12 at their edges. */
final class ValleyEdges {
    private ValleyEdges() {
    }

    static void all() {
        aNewObject();
        spotsAndHills();
        windBreathBound();
        bells();
        aBellInAnothersPlace();
        changes();
        kinds();
        strikes();
        ears();
        earsOfSheets();
        far();
        hid();
        walks();
        quotients();
        strength();
        heard();
        clash();
        firstClash();
    }

    private static void aNewObject() {
        Doc.promise(1, "All as at first; no BELLS, no EARS");
        OneBreath other = Refusals.full();
        other.set(0, 5);
        other.hill(50, 9);
        other.text(0);
        Due.text(other, 1, "0");
        other.seed(9);
        OneBreath x = new OneBreath();
        int[] counts = {0, 0, 0, 0, 0, 0, 0, 1};
        for (int what = 0; what <= 7; what++) {
            Due.is("1: beside another object, count(" + what + ")", x.count(what), counts[what]);
        }
        for (int k = 1; k <= 5; k++) {
            Due.is("1: told(" + k + ")", x.told(k), 0);
        }
        Due.is("1: a HILL", x.hill(50, 0), 0);
        Due.is("1: BREATH", x.set(1, 3), 3);
        Due.is("1: BOUND", x.set(2, 60), 60);
        Due.is("1: CARRIES", x.law(0, 9, 1, 1, 1), 4);
        Due.is("1: GRAZES", x.law(1, 9, 1, 1, 1), 7);
        Due.is("1: the first BELL", x.bell(0, 0, 0), 0);
        Due.is("1: the first EAR", x.ear(0), 0);
        Due.is("1: the first IMAGE", x.image(), 1);
        Due.is("1: the first that waits", x.tell(0), 1);
        Due.is("1: the first byte", x.feed(0, 1), 1);
    }

    private static void spotsAndHills() {
        Doc.term("SPOTS are 0 to 99 along THE VALLEY");
        Doc.promise(2, "HILL of a SPOT becomes v: what it was");
        OneBreath x = new OneBreath();
        for (int spot = 0; spot < 100; spot++) {
            Due.is("2: 0 at first", x.hill(spot, spot % 10), 0);
        }
        for (int spot = 99; spot >= 0; spot--) {
            Due.is("2: what it was", x.hill(spot, 9 - spot % 10), spot % 10);
        }
        for (int spot = 0; spot < 100; spot++) {
            Due.is("2: no other one changed", x.hill(spot, 9), 9 - spot % 10);
        }
        Due.is("2: as high as can be, again", x.hill(0, 9), 9);
        Due.is("2: flat again", x.hill(99, 0), 9);
        Due.is("2: and what it was then", x.hill(99, 0), 0);
    }

    private static void windBreathBound() {
        Doc.term("WIND is -5 to 5 (0 at first; above 0 it blows to greater SPOTS); BREATH 0 to 30 seconds");
        Doc.promise(3, "WIND (what 0), BREATH (1), BOUND (2) becomes v: what it was");
        OneBreath x = new OneBreath();
        int[] first = {0, 3, 60};
        int[] least = {-5, 0, 0};
        int[] most = {5, 30, 300};
        for (int what = 0; what < 3; what++) {
            Due.is("3: at first", x.set(what, least[what]), first[what]);
            Due.is("3: the least", x.set(what, most[what]), least[what]);
            Due.is("3: the most", x.set(what, most[what]), most[what]);
        }
        for (int what = 0; what < 3; what++) {
            Due.is("3: none changed another", x.set(what, 0), most[what]);
        }
        OneBreath y = new OneBreath();
        y.bell(0, 50, 99);
        y.ear(60);
        y.ear(40);
        y.set(0, 5);
        Due.is("3: above 0, sooner at greater SPOTS", y.way(0, 0, 2), 20);
        Due.is("3: above 0, later at lesser ones", y.way(0, 1, 2), 40);
        y.set(0, -5);
        Due.is("3: below 0, later at greater SPOTS", y.way(0, 0, 2), 40);
        Due.is("3: below 0, sooner at lesser ones", y.way(0, 1, 2), 20);
    }

    private static void bells() {
        Doc.term("BELLS 0, 1, .. (at most 8), of KINDS");
        Doc.promise(4, "A BELL: its number");
        Doc.promise(4, "km: 100 times the KIND, and m");
        Doc.promise(5, "Of a BELL: 0 KIND, 1 m, 2 SPOT, 3 LOUD, 4 OFFSET, 5 RANK, 6 SILENT");
        int[] kms = {0, 123, 200, 323, 400, 523, 600, 23};
        OneBreath x = new OneBreath();
        for (int i = 0; i < 8; i++) {
            Due.is("4: its number", x.bell(kms[i], 99 * (i % 2), 99 * (i / 2 % 2)), i);
            int[] parts = {kms[i] / 100, kms[i] % 100, 99 * (i % 2), 99 * (i / 2 % 2), 0, 1, 0};
            for (int what = 0; what < 7; what++) {
                Due.is("5: ofBell(" + i + ", " + what + ")", x.ofBell(i, what), parts[what]);
            }
        }
    }

    /** The number of a BELL that an IMAGE has taken away comes again, with nothing of that BELL. */
    private static void aBellInAnothersPlace() {
        OneBreath x = new OneBreath();
        x.image();
        x.bell(623, 99, 99);
        x.change(0, 4, -900);
        x.change(0, 5, 99);
        x.change(0, 6, 1);
        x.ear(77);
        x.restore();
        Due.is("4: the number 0 again", x.bell(0, 1, 2), 0);
        int[] parts = {0, 0, 1, 2, 0, 1, 0};
        for (int what = 0; what < 7; what++) {
            Due.is("4: at first, what " + what, x.ofBell(0, what), parts[what]);
        }
        Due.is("9: the number 0 again", x.ear(5), 0);
        Due.is("9: at its own SPOT", x.way(0, 0, 0), 4);
    }

    private static void changes() {
        Doc.promise(6, "SPOT (what 2), LOUD (3), OFFSET (4), RANK (5), SILENT (6) of a BELL becomes v: what it was");
        int[] least = {0, 0, 0, 0, -900, 0, 0};
        int[] most = {0, 0, 99, 99, 900, 99, 1};
        int[] first = {0, 0, 50, 99, 350, 1, 0};
        OneBreath x = Refusals.full();
        for (int what = 2; what <= 6; what++) {
            Due.is("6: of the last of 8, what it was", x.change(7, what, least[what]), first[what]);
            Due.is("6: the least", x.change(7, what, most[what]), least[what]);
            Due.is("6: the most", x.change(7, what, most[what]), most[what]);
            Due.is("6: it is so", x.ofBell(7, what), most[what]);
            Due.is("6: of the one ahead it isn't", x.ofBell(6, what), what == 4 ? 250 : first[what]);
        }
        Due.is("6: KIND stays", x.ofBell(7, 0), 0);
        Due.is("6: m stays", x.ofBell(7, 1), 7);
    }

    private static void kinds() {
        Doc.promise(7, "A BELL as one of a KIND: LOUD");
        OneBreath x = new OneBreath();
        x.bell(600, 5, 0);
        x.bell(400, 5, 99);
        Due.is("7: a STRAY as a BELL, the least LOUD", x.as(0, 0), 0);
        Due.is("7: a STRAY as a COW", x.as(0, 3), 0);
        Due.is("7: a STRAY as a STRAY", x.as(0, 6), 0);
        Due.is("7: a STRAY as a CHURCH", x.as(0, 1), Due.KIND);
        Due.is("7: a TOWER as a CHURCH, the greatest LOUD", x.as(1, 1), 99);
        Due.is("7: a TOWER as a FEAST, beside it", x.as(1, 5), Due.KIND);
        x.bell(100, 5, 7);
        x.bell(0, 5, 8);
        Due.is("7: a CHURCH as a TOWER, under it", x.as(2, 4), Due.KIND);
        Due.is("7: a BELL as a BELL", x.as(3, 0), 8);
        Due.is("7: a BELL as a COW, under it", x.as(3, 3), Due.KIND);
    }

    private static void strikes() {
        Doc.promise(8, "Whether a BELL STRIKES at an HOUR: 1, 0");
        Doc.term("STRIKES at an HOUR (0 to 23), if it isn't SILENT: BELL: each HOUR");
        at("a BELL", 0, new int[] {0, 5, 6, 12, 22, 23}, 1);
        Doc.term("CHURCH: 6 to 22");
        at("a CHURCH", 123, new int[] {6, 7, 21, 22}, 1);
        at("a CHURCH", 100, new int[] {0, 5, 23}, 0);
        Doc.term("SCHOOL: 8, 12, 16");
        at("a SCHOOL", 200, new int[] {8, 12, 16}, 1);
        at("a SCHOOL", 211, new int[] {0, 7, 9, 11, 13, 15, 17, 23}, 0);
        Doc.term("COW: as BELL");
        at("a COW", 300, new int[] {0, 1, 22, 23}, 1);
        at("a COW at its m", 312, new int[] {12}, 1);
        Doc.term("TOWER: as CHURCH, and at 0");
        at("a TOWER", 401, new int[] {0, 6, 22}, 1);
        at("a TOWER", 401, new int[] {1, 5, 23}, 0);
        Doc.term("FEAST: as CHURCH, and of these HOURS at m alone");
        at("a FEAST of 6", 506, new int[] {6}, 1);
        at("a FEAST of 6", 506, new int[] {0, 5, 7, 22}, 0);
        at("a FEAST of 22", 522, new int[] {22}, 1);
        at("a FEAST of 22", 522, new int[] {6, 21, 23}, 0);
        at("a FEAST of 5", 505, new int[] {0, 5, 6, 22, 23}, 0);
        at("a FEAST of 23", 523, new int[] {0, 6, 22, 23}, 0);
        at("a FEAST of 0", 500, new int[] {0, 6, 22, 23}, 0);
        Doc.term("STRAY: as COW, but not at m");
        at("a STRAY of 0", 600, new int[] {1, 12, 23}, 1);
        at("a STRAY of 0", 600, new int[] {0}, 0);
        at("a STRAY of 23", 623, new int[] {0, 22}, 1);
        at("a STRAY of 23", 623, new int[] {23}, 0);
    }

    private static void at(String what, int km, int[] hours, int due) {
        OneBreath x = new OneBreath();
        x.bell(km, 50, 50);
        for (int hour : hours) {
            Due.is("8: " + what + " at " + hour, x.strikes(0, hour), due);
        }
        x.change(0, 6, 1);
        for (int hour : hours) {
            Due.is("8: " + what + " that is SILENT", x.strikes(0, hour), 0);
        }
        x.change(0, 6, 0);
        Due.is("8: " + what + " that isn't any more", x.strikes(0, hours[0]), due);
    }

    private static void ears() {
        Doc.term("EARS 0, 1, .. (at most 10), each at a SPOT");
        Doc.promise(9, "An EAR at a SPOT: its number");
        OneBreath x = new OneBreath();
        x.bell(0, 0, 0);
        for (int i = 0; i < 10; i++) {
            Due.is("9: its number", x.ear(99 - 11 * i), i);
            Due.is("9: how many", x.count(1), i + 1);
        }
        for (int i = 0; i < 10; i++) {
            Due.is("9: where it is", x.way(0, i, 0), 99 - 11 * i);
        }
    }

    /** A SHEET of 8 bits with such numbers. */
    private static OneBreath sheetOf(int ears, int... numbers) {
        OneBreath x = new OneBreath();
        x.bell(0, 0, 0);
        for (int i = 0; i < ears; i++) {
            x.ear(50);
        }
        x.sheet(2, 8, numbers.length);
        for (int i = 0; i < numbers.length; i++) {
            x.put(2, i, numbers[i]);
        }
        return x;
    }

    private static void come(int came, int ears, int... numbers) {
        OneBreath x = sheetOf(ears, numbers);
        Due.is("10: how many came", x.ears(2), came);
        Due.is("10: how many there are", x.count(1), ears + came);
        for (int i = 0; i < came; i++) {
            Due.is("10: from number 0 on", x.way(0, ears + i, 0), numbers[i]);
        }
        Due.is("10: no ERROR", x.told(1) + x.told(2) + x.told(4), 0);
    }

    private static void earsOfSheets() {
        Doc.promise(10, "EARS from a SHEET, their SPOTS, from number 0 on, up to the first that is no SPOT, or has no room");
        come(0, 0);
        come(2, 0, 0, 99);
        come(0, 0, 100, 1);
        come(0, 0, 255, 1);
        come(1, 0, 7, 100, 8);
        come(1, 3, 7, 128, 8);
        come(10, 0, 1, 2, 3, 4, 5, 6, 7, 8, 9, 10);
        come(10, 0, 1, 2, 3, 4, 5, 6, 7, 8, 9, 10, 11);
        come(1, 9, 4, 5);
        come(0, 10, 4, 5);
        come(0, 10);
        OneBreath x = new OneBreath();
        x.bell(0, 1, 0);
        x.sheet(3, 32, 40);
        Due.is("10: of 40 numbers, all 0", x.ears(3), 10);
        for (int i = 0; i < 10; i++) {
            Due.is("10: at SPOT 0", x.way(0, i, 0), 1);
        }
    }

    /** A BELL at one SPOT and an EAR at another, no more. */
    private static OneBreath two(int from, int to) {
        OneBreath x = new OneBreath();
        x.bell(0, from, 99);
        x.ear(to);
        return x;
    }

    private static void far() {
        Doc.term("FAR: the difference of two SPOTS, without sign");
        Due.is("11: FAR from end to end", two(0, 99).way(0, 0, 0), 99);
        Due.is("11: FAR back", two(99, 0).way(0, 0, 0), 99);
        Due.is("11: FAR at one SPOT", two(50, 50).way(0, 0, 0), 0);
        Due.is("11: FAR to the next", two(50, 51).way(0, 0, 0), 1);
        Due.is("11: FAR to the one ahead", two(50, 49).way(0, 0, 0), 1);
    }

    private static int hidden(int from, int to) {
        OneBreath x = two(from, to);
        for (int spot = 0; spot < 100; spot++) {
            x.hill(spot, 9);
        }
        return x.way(0, 0, 1);
    }

    private static void hid() {
        Doc.term("HID: HILLS of all SPOTS between a BELL and an EAR (of neither itself), together");
        Due.is("11: HID from end to end", hidden(0, 99), 98 * 9);
        Due.is("11: HID back", hidden(99, 0), 98 * 9);
        Due.is("11: HID at one SPOT", hidden(0, 0), 0);
        Due.is("11: HID at the last SPOT", hidden(99, 99), 0);
        Due.is("11: HID to the next", hidden(98, 99), 0);
        Due.is("11: HID to the one ahead", hidden(1, 0), 0);
        Due.is("11: HID by one alone", hidden(97, 99), 9);
        Due.is("11: HID by one alone, back", hidden(2, 0), 9);
        OneBreath x = two(20, 30);
        x.hill(20, 9);
        x.hill(30, 9);
        Due.is("11: HID by neither itself", x.way(0, 0, 1), 0);
        x.hill(21, 1);
        x.hill(29, 2);
        Due.is("11: HID by the first and the last between", x.way(0, 0, 1), 3);
        x.hill(19, 9);
        x.hill(31, 9);
        Due.is("11: HID by none outside", x.way(0, 0, 1), 3);
    }

    private static void blown(int from, int to, int wind, int due) {
        OneBreath x = two(from, to);
        x.set(0, wind);
        Due.is("11: WAY from " + from + " to " + to + " in WIND " + wind, x.way(0, 0, 2), due);
    }

    private static void walks() {
        Doc.term("WAY of a BELL to an EAR: 3 times FAR, and AGAINST");
        int[] there = {396, 376, 356, 336, 316, 297, 278, 258, 238, 218, 198};
        for (int wind = -5; wind <= 5; wind++) {
            blown(0, 99, wind, there[wind + 5]);
            blown(99, 0, -wind, there[wind + 5]);
            blown(7, 7, wind, 0);
        }
        blown(10, 11, 5, 2);
        blown(10, 11, 4, 3);
        blown(10, 11, -4, 3);
        blown(10, 11, -5, 4);
        blown(10, 9, 5, 4);
        blown(10, 9, 4, 3);
        blown(10, 9, -4, 3);
        blown(10, 9, -5, 2);
    }

    private static void quotients() {
        Doc.term("Quotients are cut");
        blown(10, 17, 1, 20);
        blown(10, 17, -1, 22);
        blown(17, 10, 1, 22);
        blown(17, 10, -1, 20);
        blown(10, 14, 1, 12);
        blown(10, 14, -1, 12);
        blown(14, 10, -1, 12);
        blown(10, 13, 3, 8);
        blown(10, 13, -3, 10);
    }

    private static void strength() {
        Doc.term("STRENGTH: what CARRIES (a TEXT) gives; HEARD: if STRENGTH is above 0, the BELL strikes; at SECOND");
        Doc.promise(11, "Of a BELL to an EAR: what 0 FAR, 1 HID, 2 WAY, 3 STRENGTH, 4 SECOND (whether it is HEARD or not)");
        OneBreath x = two(40, 50);
        int[] louds = {9, 10, 11};
        for (int i = 0; i < 3; i++) {
            x.change(0, 3, louds[i]);
            Due.is("11: STRENGTH", x.way(0, 0, 3), i - 1);
            Due.is("12: HEARD above 0 alone", x.heard(0, 0), i == 2 ? 1 : 0);
            Due.is("11: SECOND all the same", x.way(0, 0, 4), 30);
        }
        x.change(0, 4, -900);
        Due.is("11: SECOND of the least OFFSET", x.way(0, 0, 4), -870);
        x.change(0, 4, 900);
        Due.is("11: SECOND of the greatest OFFSET", x.way(0, 0, 4), 930);
        x.change(0, 6, 1);
        Due.is("11: STRENGTH of a SILENT one", x.way(0, 0, 3), 1);
        Due.is("11: SECOND of a SILENT one", x.way(0, 0, 4), 930);
        Due.is("12: a SILENT one", x.heard(0, 0), 0);
        x.change(0, 6, 0);
        Due.text(x, 0, "9999*9999*20");
        Due.is("11: a STRENGTH near the greatest", x.way(0, 0, 3), 1999600020);
        Due.is("12: is HEARD", x.heard(0, 0), 1);
        Due.text(x, 0, "9999*9999*30");
        Due.is("11: a STRENGTH that wraps", x.way(0, 0, 3), -1295567266);
        Due.is("12: is not HEARD", x.heard(0, 0), 0);
        Due.is("11: and no ERROR", x.told(1), 0);
    }

    private static void heard() {
        Doc.promise(12, "BELLS that are HEARD at an EAR at an HOUR, as bits");
        OneBreath x = Refusals.full();
        Due.is("12: those that strike at 3", x.heard(0, 3), 255 - 2 - 4 - 16 - 32);
        Due.is("12: all 8, at the last EAR", x.heard(9, 12), 255);
        Due.is("12: at the last HOUR", x.heard(9, 23), 1 + 8 + 64 + 128);
        Due.is("12: at the first HOUR", x.heard(9, 0), 1 + 8 + 16 + 64 + 128);
        Due.is("12: at the STRAY's m", x.heard(9, 7), 1 + 2 + 8 + 16 + 128);
        for (int i = 0; i < 7; i++) {
            x.change(i, 6, 1);
        }
        Due.is("12: the last alone", x.heard(9, 12), 128);
        x.change(7, 6, 1);
        Due.is("12: none", x.heard(9, 12), 0);
        OneBreath y = new OneBreath();
        y.ear(0);
        Due.is("12: of no BELLS", y.heard(0, 0), 0);
    }

    private static void differ(int breath, int seconds, int due) {
        OneBreath x = new OneBreath();
        x.bell(0, 50, 90);
        x.bell(0, 60, 90);
        x.ear(50);
        x.set(1, breath);
        x.change(1, 4, seconds - 30);
        Due.is("16: CLASHES of " + seconds + " seconds in a BREATH of " + breath, x.clashes(12, 0), due);
    }

    private static void clash() {
        Doc.term("A CLASH at an HOUR: two BELLS (one below other) both HEARD at an EAR, at SECONDS that differ by BREATH");
        for (int breath : new int[] {0, 1, 3, 30}) {
            differ(breath, 0, 1);
            differ(breath, breath, 1);
            differ(breath, -breath, 1);
            differ(breath, breath + 1, 0);
            differ(breath, -breath - 1, 0);
        }
        OneBreath x = new OneBreath();
        x.bell(0, 50, 90);
        x.bell(600, 50, 90);
        Due.is("16: without EARS", x.clashes(12, 0), 0);
        x.ear(50);
        Due.is("16: both HEARD", x.clashes(12, 0), 1);
        Due.is("16: one doesn't strike", x.clashes(0, 0), 0);
        x.change(1, 3, 0);
        Due.is("16: one isn't HEARD", x.clashes(12, 0), 0);
        x.change(1, 3, 1);
        Due.is("16: just HEARD", x.clashes(12, 0), 1);
        x.change(0, 6, 1);
        Due.is("16: one is SILENT", x.clashes(12, 0), 0);
    }

    /** BELLS 0 and 2 clash at EAR 0, BELLS 0 and 1 at EAR 9, no others. */
    private static void firstClash() {
        Doc.term("The first one is by one, then other, then EAR");
        OneBreath x = new OneBreath();
        x.bell(0, 50, 99);
        x.bell(0, 60, 5);
        x.bell(0, 40, 5);
        x.change(1, 4, 18);
        x.change(2, 4, 18);
        x.ear(42);
        for (int i = 1; i < 9; i++) {
            x.ear(99);
        }
        x.ear(58);
        Due.is("16: how many", x.clashes(12, 0), 2);
        Due.is("16: by other ahead of EAR", x.clashes(12, 1), 109);
        x.change(1, 6, 1);
        Due.is("16: without that", x.clashes(12, 1), 200);
        x.change(0, 6, 1);
        Due.is("16: none", x.clashes(12, 1), -1);
        OneBreath y = new OneBreath();
        y.bell(0, 50, 99);
        y.bell(0, 50, 99);
        y.ear(0);
        y.ear(1);
        Due.is("16: the lesser EAR of two", y.clashes(12, 1), 100);
        y.bell(0, 50, 99);
        Due.is("16: by one ahead of other", y.clashes(12, 1), 100);
        y.change(0, 6, 1);
        Due.is("16: of the others", y.clashes(12, 1), 10200);
    }
}
