/** Clashes and slates, promises 16 to 22 with their terms, at their edges. */
final class SlateEdges {
    private SlateEdges() {
    }

    static void all() {
        clashes();
        clash();
        quiet();
        quietTwice();
        apart();
        order();
        boundBothWays();
        whatNeedNotBeApart();
        eachTwo();
        earliestAndLatest();
        leastBound();
        hang();
        hangHeld();
        aFullValley();
    }

    /** n BELLS that strike at all HOURS and an EAR, all at SPOT 50. */
    private static OneBreath heap(int n) {
        OneBreath x = new OneBreath();
        for (int i = 0; i < n; i++) {
            x.bell(0, 50, 90);
        }
        x.ear(50);
        return x;
    }

    private static OneBreath offsets(int... offsets) {
        OneBreath x = heap(offsets.length);
        for (int i = 0; i < offsets.length; i++) {
            x.change(i, 4, offsets[i]);
        }
        return x;
    }

    private static void clashes() {
        Doc.promise(16, "CLASHES at an HOUR: what 0 how many, 1 the first one (10000 times one, 100 times other, and EAR");
        OneBreath x = new OneBreath();
        for (int i = 0; i < 8; i++) {
            Due.is("16: of " + i + " BELLS, no EARS", x.clashes(0, 0), 0);
            Due.is("16: none", x.clashes(23, 1), -1);
            x.bell(0, 50, 99);
        }
        for (int i = 0; i < 10; i++) {
            Due.is("16: of 8 BELLS and EARS " + i, x.clashes(0, 0), 28 * i);
            x.ear(50);
        }
        Due.is("16: the most", x.clashes(23, 0), 280);
        Due.is("16: the first", x.clashes(23, 1), 100);
        x.change(0, 4, 900);
        x.change(1, 4, -900);
        Due.is("16: of the other six", x.clashes(0, 0), 150);
        Due.is("16: the first of these", x.clashes(0, 1), 20300);
        for (int i = 2; i < 7; i++) {
            x.change(i, 4, 100 * i);
        }
        Due.is("16: none left", x.clashes(0, 0), 0);
        Due.is("16: no first one", x.clashes(0, 1), -1);
        x.change(6, 4, 3);
        Due.is("16: the last two", x.clashes(0, 1), 60700);
    }

    private static void clash() {
        Doc.promise(17, "In how many CLASHES a BELL is at an HOUR");
        OneBreath x = heap(8);
        for (int i = 1; i < 10; i++) {
            x.ear(50);
        }
        Due.is("17: the most", x.clash(0, 0), 70);
        Due.is("17: of the last", x.clash(7, 23), 70);
        x.change(7, 4, 4);
        Due.is("17: none", x.clash(7, 0), 0);
        Due.is("17: of the others", x.clash(0, 0), 60);
        x.change(0, 6, 1);
        Due.is("17: of a SILENT one", x.clash(0, 0), 0);
        Due.is("17: alone", heap(1).clash(0, 0), 0);
    }

    private static void quiet() {
        Doc.term("QUIET: the HOUR in which fewest CLASHES are; of several the least");
        Doc.promise(18, "QUIET: what 0 the HOUR, 1 how many CLASHES");
        quietly(heap(0), 0, 0);
        quietly(heap(1), 0, 0);
        quietly(heap(2), 0, 1);
        OneBreath last = heap(1);
        last.bell(623, 50, 90);
        quietly(last, 23, 0);
        last.bell(600, 50, 90);
        last.bell(600, 50, 90);
        quietly(last, 0, 1);
        OneBreath night = heap(0);
        night.bell(400, 50, 90);
        night.bell(400, 50, 90);
        quietly(night, 1, 0);
        OneBreath full = heap(8);
        for (int i = 1; i < 10; i++) {
            full.ear(50);
        }
        quietly(full, 0, 280);
        full.change(3, 6, 1);
        quietly(full, 0, 210);
        OneBreath later = heap(7);
        later.bell(623, 50, 90);
        for (int i = 1; i < 10; i++) {
            later.ear(50);
        }
        quietly(later, 23, 210);
        OneBreath windy = offsets(0, 4);
        windy.change(1, 2, 51);
        quietly(windy, 0, 0);
        windy.change(1, 4, 0);
        quietly(windy, 0, 1);
        windy.set(0, 5);
        quietly(windy, 0, 0);
    }

    private static void quietly(OneBreath x, int hour, int clashes) {
        Due.is("18: the HOUR", x.quiet(0), hour);
        Due.is("18: how many", x.quiet(1), clashes);
        Due.is("18: as clashes() tells", x.clashes(hour, 0), clashes);
    }

    /** What an earlier call has counted isn't counted again. */
    private static void quietTwice() {
        OneBreath x = heap(3);
        for (int turn = 0; turn < 5; turn++) {
            quietly(x, 0, 3);
        }
        x.change(2, 6, 1);
        quietly(x, 0, 1);
        x.change(2, 6, 0);
        quietly(x, 0, 3);
    }

    private static void apart() {
        Doc.term("APART of two BELLS: the most by which, for that, OFFSET of the other one must be above that of the first");
        Doc.promise(19, "APART");
        OneBreath x = new OneBreath();
        x.bell(0, 0, 0);
        x.bell(600, 99, 0);
        x.ear(0);
        x.ear(99);
        Due.text(x, 0, "1");
        x.set(1, 30);
        Due.is("19: the most, WIND 0", x.apart(0, 1, 12), 31 + 297);
        x.set(0, -5);
        Due.is("19: the most of all", x.apart(0, 1, 12), 31 + 396);
        Due.is("19: the other way", x.apart(1, 0, 12), 31 + 198);
        x.set(1, 0);
        Due.is("19: BREATH 0", x.apart(0, 1, 12), 1 + 396);
        Due.text(x, 0, "d>9|k=0");
        Due.is("19: at the first EAR alone", x.apart(0, 1, 12), 1 - 198);
        Due.is("19: at that, the other way", x.apart(1, 0, 12), 1 + 198);
        x.change(0, 4, 900);
        x.change(1, 4, -900);
        Due.is("19: whatever OFFSETS are", x.apart(0, 1, 12), 1 - 198);
        Doc.promise(19, "NONE: they aren't HEARD both anywhere at that HOUR");
        Due.is("19: one doesn't strike", x.apart(0, 1, 0), Due.NONE);
        Due.is("19: the first doesn't strike", x.apart(1, 0, 0), Due.NONE);
        x.change(0, 6, 1);
        Due.is("19: one is SILENT", x.apart(0, 1, 12), Due.NONE);
        x.change(0, 6, 0);
        Due.text(x, 0, "d<9");
        Due.is("19: each HEARD at its own EAR", x.apart(0, 1, 12), Due.NONE);
        x.ear(50);
        Due.text(x, 0, "d<60");
        Due.is("19: both HEARD at the third", x.apart(0, 1, 12), 1 + 200 - 98);
        Due.is("19: without EARS", pairWithoutEars().apart(0, 1, 12), Due.NONE);
        Due.is("19: no STATE, no other ERROR", x.told(3) + x.told(4) + x.told(5), 0);
    }

    private static OneBreath pairWithoutEars() {
        OneBreath x = new OneBreath();
        x.bell(0, 50, 90);
        x.bell(0, 50, 90);
        return x;
    }

    private static void earliest(String what, OneBreath x, int... due) {
        for (int bell = 0; bell < due.length; bell++) {
            Due.is("20: " + what + ", EARLIEST of " + bell, x.slate(bell, 12, 0), due[bell]);
        }
    }

    private static void latest(String what, OneBreath x, int... due) {
        for (int bell = 0; bell < due.length; bell++) {
            Due.is("20: " + what + ", LATEST of " + bell, x.slate(bell, 12, 1), due[bell]);
        }
    }

    private static void order() {
        Doc.term("THE SLATE at an HOUR by the ORDER in which BELLS that strike come (by OFFSET, of like ones the lesser number");
        earliest("of like OFFSETS the lesser number first", offsets(0, 0, 0), -60, -56, -52);
        latest("of like OFFSETS the lesser number first", offsets(0, 0, 0), 52, 56, 60);
        earliest("by OFFSET", offsets(2, 1, 0), -52, -56, -60);
        earliest("by OFFSET, then number", offsets(1, 0, 1, 0), -52, -60, -48, -56);
        earliest("from the least OFFSET to the greatest", offsets(900, -900), 840, -960);
        latest("from the least OFFSET to the greatest", offsets(900, -900), 960, -840);
        OneBreath x = offsets(0, 0, 0);
        x.change(1, 6, 1);
        Due.is("20: one that doesn't strike isn't in it", x.slate(2, 12, 0), -56);
        Due.is("20: nor has it an OFFSET there", x.slate(1, 12, 0), Due.STATE);
    }

    private static void boundBothWays() {
        Doc.promise(20, "NONE: there is no slate");
        OneBreath x = offsets(0, 0);
        x.set(2, 2);
        earliest("just within BOUND", x, -2, 2);
        latest("just within BOUND", x, -2, 2);
        x.set(2, 1);
        earliest("BOUND too small", x, Due.NONE, Due.NONE);
        latest("BOUND too small", x, Due.NONE, Due.NONE);
        OneBreath y = offsets(0, 4);
        y.set(2, 0);
        earliest("BOUND 0", y, 0, 4);
        latest("BOUND 0", y, 0, 4);
        y.change(1, 4, 3);
        earliest("BOUND 0 too small", y, Due.NONE, Due.NONE);
        OneBreath z = offsets(7);
        z.set(2, 300);
        earliest("BOUND 300", z, -293);
        latest("BOUND 300", z, 307);
        z.set(2, 0);
        earliest("alone, BOUND 0", z, 7);
        latest("alone, BOUND 0", z, 7);
        wideBound();
    }

    /** An odd number of seconds that lack is halved upwards. */
    private static void wideBound() {
        OneBreath x = new OneBreath();
        x.bell(0, 0, 0);
        x.bell(0, 99, 0);
        x.bell(0, 99, 0);
        x.ear(99);
        Due.text(x, 0, "1");
        x.set(1, 30);
        // 31 + 297 from 0 to 1, 31 from 1 to 2: 359 in all.
        x.set(2, 180);
        earliest("359 seconds within 180 both ways", x, -180, 148, 179);
        latest("359 seconds within 180 both ways", x, -179, 149, 180);
        x.set(2, 179);
        earliest("359 seconds within 179 both ways", x, Due.NONE, Due.NONE, Due.NONE);
        Due.is("21: 359 seconds", x.least(12), 180);
    }

    private static void whatNeedNotBeApart() {
        earliest("without EARS", pairWithoutEars(), -60, -60);
        latest("without EARS", pairWithoutEars(), 60, 60);
        OneBreath x = offsets(0, 0, 0);
        x.change(1, 3, 0);
        earliest("one that isn't HEARD", x, -60, -60, -56);
        latest("one that isn't HEARD", x, 56, 60, 60);
        x.set(2, 0);
        x.change(2, 4, 4);
        earliest("one that isn't HEARD, BOUND 0", x, 0, 0, 4);
    }

    /** What holds two apart may be below 0, and BELLS that aren't neighbours in the ORDER hold each other, too. */
    private static void eachTwo() {
        OneBreath x = new OneBreath();
        x.bell(0, 10, 99);
        x.bell(0, 90, 5);
        x.bell(0, 10, 99);
        x.ear(10);
        x.ear(90);
        // EAR 90: 0 and 2 after a WAY of 240, 1 at once; STRENGTHS 19, 5, 19.
        Due.is("19: from 0 to 1", x.apart(0, 1, 12), 244);
        Due.is("19: from 1 to 2", x.apart(1, 2, 12), 4 - 240);
        Due.is("19: from 0 to 2", x.apart(0, 2, 12), 4);
        x.set(2, 130);
        earliest("each two of them", x, -130, 114, -122);
        latest("each two of them", x, -114, 130, 130);
    }

    private static void earliestAndLatest() {
        Doc.term("EARLIEST, LATEST: the slate in which all OFFSETS are as small, as great, as can be");
        Doc.promise(20, "THE SLATE: OFFSET of a BELL, what 0 in the EARLIEST, 1 in the LATEST one");
        OneBreath x = offsets(0, 50, 52, 200);
        x.set(2, 30);
        earliest("two that press, two that don't", x, -30, 20, 24, 170);
        latest("two that press, two that don't", x, 30, 78, 82, 230);
        OneBreath y = offsets(0, 1, 2, 3, 4, 5, 6, 7);
        y.set(2, 300);
        earliest("8 BELLS", y, -300, -296, -292, -288, -284, -280, -276, -272);
        latest("8 BELLS", y, 279, 283, 287, 291, 295, 299, 303, 307);
        y.set(2, 11);
        earliest("8 BELLS, just so", y, -11, -7, -3, 1, 5, 9, 13, 17);
        latest("8 BELLS, just so", y, -10, -6, -2, 2, 6, 10, 14, 18);
        y.set(2, 10);
        earliest("8 BELLS, not quite", y, Due.NONE);
        Due.is("20: OFFSETS stay", y.ofBell(7, 4), 7);
    }

    private static void leastBound() {
        Doc.term("LEAST BOUND: the least BOUND (0 to 2000) with which there is a slate");
        Doc.promise(21, "LEAST BOUND");
        Due.is("21: without BELLS", heap(0).least(0), 0);
        Due.is("21: of one", heap(1).least(0), 0);
        Due.is("21: of two just apart", offsets(0, 4).least(0), 0);
        Due.is("21: of two, 1 second lacks", offsets(0, 3).least(0), 1);
        Due.is("21: of two, 2 seconds lack", offsets(0, 2).least(0), 1);
        Due.is("21: of two, 3 seconds lack", offsets(0, 1).least(0), 2);
        Due.is("21: of 8", heap(8).least(23), 14);
        OneBreath x = new OneBreath();
        for (int i = 0; i < 8; i++) {
            x.bell(0, 99 * (i % 2), 0);
        }
        x.ear(0);
        x.ear(99);
        Due.text(x, 0, "1");
        x.set(1, 30);
        x.set(0, -5);
        // Four times 31 + 396 and three times 31 + 198 are 2395, the most that there can be.
        Due.is("21: the most that is ever needed", x.least(12), 1198);
        Doc.promise(21, "NONE: not with 2000");
        Due.is("21: so that NONE isn't reached", x.told(2), 0);
        x.set(2, 300);
        Due.is("20: which no BOUND is", x.slate(0, 12, 0), Due.NONE);
        Due.is("22: so that none hang", x.hang(12), Due.NONE);
        x.set(2, 0);
        Due.is("21: whatever BOUND is", x.least(12), 1198);
    }

    private static void hang() {
        Doc.promise(22, "The EARLIEST slate at an HOUR becomes so (OFFSETS held within -900 to 900): of how many BELLS");
        Doc.promise(22, "NONE: there is none");
        Due.is("22: without BELLS", heap(0).hang(0), 0);
        OneBreath x = offsets(0, 0, 0);
        x.change(2, 6, 1);
        Due.is("22: of those that strike", x.hang(12), 2);
        are(x, -60, -56, 0);
        x.set(2, 0);
        Due.is("22: none is another", x.hang(12), 0);
        are(x, -60, -56, 0);
        OneBreath y = offsets(0, 2);
        y.set(2, 1);
        Due.is("22: just within BOUND", y.hang(12), 2);
        are(y, -1, 3);
        OneBreath z = offsets(5, 5);
        z.set(2, 1);
        Due.is("22: none", z.hang(12), Due.NONE);
        are(z, 5, 5);
        OneBreath u = offsets(0, 0, 0);
        u.set(2, 4);
        Due.is("22: but for one", u.hang(12), 2);
        are(u, -4, 0, 4);
    }

    private static void hangHeld() {
        OneBreath x = offsets(-900, 900);
        x.set(2, 300);
        Due.is("22: held below", x.hang(12), 1);
        are(x, -900, 600);
        OneBreath y = offsets(-601, -595);
        y.set(2, 300);
        Due.is("22: one is held below", y.hang(12), 2);
        are(y, -900, -895);
        OneBreath z = offsets(-900, -900);
        Due.is("22: both are held, none is another", z.hang(12), 0);
        are(z, -900, -900);
        // -960 and -956 are the slate; held, they clash still.
        Due.is("20: the slate isn't held", z.slate(1, 12, 0), -956);
        Due.is("16: so they clash", z.clashes(12, 0), 1);
        OneBreath u = new OneBreath();
        u.bell(0, 0, 0);
        u.bell(0, 99, 0);
        u.ear(99);
        Due.text(u, 0, "1");
        u.change(0, 4, 900);
        u.change(1, 4, 900);
        u.set(2, 160);
        Due.is("22: held above", u.hang(12), 1);
        are(u, 740, 900);
    }

    private static void are(OneBreath x, int... due) {
        for (int bell = 0; bell < due.length; bell++) {
            Due.is("22: OFFSET of " + bell, x.ofBell(bell, 4), due[bell]);
        }
    }

    /** 8 BELLS 100 seconds apart from -350 on, 10 EARS. */
    private static void aFullValley() {
        OneBreath x = Refusals.full();
        Due.is("16: of a full valley", x.clashes(12, 0), 0);
        Due.is("17: of a full valley", x.clash(7, 12), 0);
        Due.is("18: of a full valley", x.quiet(1), 0);
        Due.is("19: of a full valley", x.apart(7, 0, 12), 4);
        for (int i = 0; i < 8; i++) {
            Due.is("20: EARLIEST of a full valley", x.slate(i, 12, 0), 100 * i - 410);
            Due.is("20: LATEST of a full valley", x.slate(i, 12, 1), 100 * i - 290);
        }
        Due.is("21: of a full valley", x.least(12), 0);
        Due.is("22: of a full valley", x.hang(12), 8);
        Due.is("22: to the last", x.ofBell(7, 4), 290);
    }
}
