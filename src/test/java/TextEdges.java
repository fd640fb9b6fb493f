/** Terms 2 and promises 13 to 15 at their edges. */
final class TextEdges {
    private static final int MAX = Integer.MAX_VALUE;
    private static final int MIN = Integer.MIN_VALUE;
    private static final String SIGNS = "|&<=>+-*/%";
    /** 24 times l+, 48 bytes. */
    private static final String LONG = "l+l+l+l+l+l+l+l+l+l+l+l+l+l+l+l+l+l+l+l+l+l+l+l+";

    private TextEdges() {
    }

    static void all() {
        tape();
        rows();
        compared();
        sumsAndProducts();
        units();
        eachByte();
        blanks();
        open();
        ints();
        truths();
        faults();
        carries();
        grazes();
        feeds();
        texts();
        laws();
    }

    /** A TEXT for CARRIES with its FAULT; -1: none. */
    private static void read(String words, int fault) {
        readFor(0, words, fault);
    }

    private static void readFor(int use, String words, int fault) {
        OneBreath x = new OneBreath();
        Due.is("14: " + words + " for " + use, Due.text(x, use, words), fault < 0 ? 1 : -10 - fault);
    }

    /** What a TEXT of CARRIES gives with l, d, h as told, w 0. */
    private static void gives(String words, int l, int d, int h, int due) {
        OneBreath x = new OneBreath();
        Due.is("14: " + words, Due.text(x, 0, words), 1);
        Due.is("15: " + words + " of " + l + ", " + d + ", " + h, x.law(0, l, d, h, 0), due);
    }

    private static void gives(String words, int due) {
        gives(words, 7, 3, 0, due);
    }

    private static void tape() {
        Doc.term("TEXTS are read from THE TAPE (bytes, at most 50): T: A { | A }");
        OneBreath x = new OneBreath();
        Due.is("13: 49 bytes", Due.feed(x, LONG + "1"), 49);
        Due.is("13: the 50th", x.feed('0', 1), 50);
        Due.is("13: no 51st", x.feed('0', 1), Due.FULL);
        Due.is("14: all 50 are read", x.text(0), 1);
        Due.is("15: to the last", x.law(0, 1, 0, 0, 0), 34);
        Due.is("13: THE TAPE has room again", x.feed('l', 1), 1);
    }

    /** T of A by |, A of B by &. */
    private static void rows() {
        read("l|d", -1);
        read("l|d|h|w|k", -1);
        read("1|1|1|1|1|1|1|1|1|1|1|1|1|1|1|1|1|1|1|1|1|1|1|1|11", -1);
        read("l|", 2);
        read("|l", 0);
        read("l||d", 2);
        gives("0|0|0", 0);
        gives("0|0|1", 1);
        gives("1|0&0", 1);
        Doc.term("A: B { & B }");
        read("l&d", -1);
        read("l&d&h&w&k", -1);
        read("1&1&1&1&1&1&1&1&1&1&1&1&1&1&1&1&1&1&1&1&1&1&1&1&11", -1);
        read("l&", 2);
        read("&l", 0);
        read("l&&d", 2);
        read("l&|d", 2);
        gives("1&1&1", 1);
        gives("1&1&0", 0);
        gives("0&0|1", 1);
        gives("0&(0|1)", 0);
    }

    private static void compared() {
        Doc.term("B: S, or S < S, S = S, S > S");
        for (char sign : new char[] {'<', '=', '>'}) {
            read("l" + sign + "d", -1);
            read("l" + sign, 2);
            read(sign + "l", 0);
            read("l" + sign + sign + "d", 2);
            for (char other : new char[] {'<', '=', '>'}) {
                read("l" + sign + "d" + other + "h", 3);
                read("(l" + sign + "d" + other + "h)", 4);
                read("l" + sign + "d&h" + other + "w|k" + sign + "1", -1);
                read("(l" + sign + "d)" + other + "h", -1);
                read("l+1" + sign + "d*2" + other + "h", 7);
            }
        }
        gives("l<d", 0);
        gives("l=d", 0);
        gives("l>d", 1);
        gives("l=d+4", 1);
        gives("l+1>7", 1);
        gives("l&d=3", 1);
    }

    private static void sumsAndProducts() {
        Doc.term("S: P { + P, - P }");
        gives("9-4-3", 2);
        gives("9-4+3", 8);
        gives("9-(4+3)", 2);
        read("l+", 2);
        read("l-", 2);
        read("+l", 0);
        read("-l", 0);
        read("l+-d", 2);
        read("l-+d", 2);
        read("l--d", 2);
        Doc.term("P: Q { * Q, / Q, % Q }");
        gives("8/4/2", 1);
        gives("8/4*2", 4);
        gives("7%4*2", 6);
        gives("2*7%4", 2);
        gives("9-2*3", 3);
        gives("9*2-3", 15);
        gives("9-7%4", 6);
        for (char sign : new char[] {'*', '/', '%'}) {
            read("l" + sign, 2);
            read(sign + "l", 0);
            read("l" + sign + sign + "d", 2);
            read("l" + sign + "-d", 2);
        }
    }

    private static void units() {
        Doc.term("Q: a NUMBER of 1 to 4 digits, a NAME, ! Q, ( T )");
        gives("0", 0);
        gives("9", 9);
        gives("0000", 0);
        gives("0009", 9);
        gives("9999", 9999);
        read("00000", 4);
        read("99990", 4);
        read("l*12345", 6);
        read("(99990)", 5);
        read("!99990", 5);
        gives("!l", 0);
        gives("!!l", 1);
        gives("!(l)", 0);
        gives("!h*5", 5);
        gives("!h+l", 8);
        gives("(l)", 7);
        gives("(l|d)+1", 2);
        read("()", 1);
        read("!)", 1);
        read("(l", 2);
        read("l)", 1);
        read("(l))", 3);
        read("(l)(d)", 3);
        read("l(d)", 1);
        read("l!d", 1);
        read("ld", 1);
        read("l1", 1);
        read("1l", 1);
        read("1(l)", 1);
        read("1!l", 1);
    }

    /** Each of the 256 bytes: first, behind a NAME, behind a digit, behind four, and within ( ). */
    private static void eachByte() {
        for (int use = 0; use < 2; use++) {
            String names = use == 0 ? "ldhwk" : "srm";
            String name = names.substring(0, 1);
            for (int b = 0; b < 256; b++) {
                char c = (char) b;
                boolean digit = c >= '0' && c <= '9';
                boolean sign = SIGNS.indexOf(c) >= 0;
                readFor(use, "" + c, digit || names.indexOf(c) >= 0 ? -1 : c == '!' || c == '(' ? 1 : 0);
                readFor(use, name + c, sign ? 2 : 1);
                readFor(use, "1" + c, digit ? -1 : sign ? 2 : 1);
                readFor(use, "1234" + c, sign ? 5 : 4);
                readFor(use, "(" + name + c, sign || c == ')' ? c == ')' ? -1 : 3 : 2);
                readFor(use, name + "+" + c, digit || names.indexOf(c) >= 0 ? -1 : c == '!' || c == '(' ? 3 : 2);
            }
        }
    }

    private static void blanks() {
        Doc.term("No blanks");
        for (char blank : new char[] {' ', '\t', '\n', '\r', '\0'}) {
            read("" + blank, 0);
            read(blank + "l", 0);
            read("l" + blank, 1);
            read("l" + blank + "+d", 1);
            read("l+" + blank + "d", 2);
            read("1" + blank + "2", 1);
            read("!" + blank + "l", 1);
            read("(" + blank + "l)", 1);
        }
    }

    private static void open() {
        Doc.term("At most 5 of ! and ( are open at once");
        read("!!!!!l", -1);
        read("!!!!!!l", 5);
        read("(((((l)))))", -1);
        read("((((((l))))))", 5);
        read("(((((!l)))))", 5);
        read("!!!!!(l)", 5);
        read("!(!(!l))", -1);
        read("!(!(!(l)))", 5);
        read("(!(!(l)))", -1);
        read("(!(!(!l)))", 5);
        read("(((((l)))))+(((((d)))))", -1);
        read("!!!!!l&!!!!!d", -1);
        read("!!!!!l&!!!!!!d", 12);
        read("((((!l+!d))))", -1);
        read("((((!l+(d)))))", -1);
        read("((((!l+(!d)))))", 8);
        read("((((l)+!!d)))", -1);
        read("((((l))+!!d))", -1);
        read("((((l)))+!!!!d)", -1);
        read("((((l)))+!!!!!d)", 13);
        read("(((((", 5);
        read("((((((", 5);
        read("!!!!!", 5);
        gives("!!!!!l", 0);
        gives("(((((l)))))", 7);
    }

    private static void ints() {
        Doc.term("Ints that wrap; / cut, % the rest that it leaves, both by 0 are 0");
        gives("9999*9999*9999", -1027349969);
        gives("9999*9999*9999*9999", 1089432001);
        gives("l+d", MAX, 1, 0, MIN);
        gives("l-d", MIN, 1, 0, MAX);
        gives("l*d", MIN, -1, 0, MIN);
        gives("l*d", 65536, 65536, 0, 0);
        gives("l/d", 7, 2, 0, 3);
        gives("l/d", -7, 2, 0, -3);
        gives("l/d", 7, -2, 0, -3);
        gives("l/d", -7, -2, 0, 3);
        gives("l%d", 7, 2, 0, 1);
        gives("l%d", -7, 2, 0, -1);
        gives("l%d", 7, -2, 0, 1);
        gives("l%d", -7, -2, 0, -1);
        gives("l/d", MIN, -1, 0, MIN);
        gives("l%d", MIN, -1, 0, 0);
        gives("l/d", MIN, MAX, 0, -1);
        gives("l%d", MIN, MAX, 0, -1);
        for (int l : new int[] {MIN, -1, 0, 1, MAX}) {
            gives("l/0", l, 0, 0, 0);
            gives("l%0", l, 0, 0, 0);
            gives("l/h", l, 9, 0, 0);
            gives("l%(d-9)", l, 9, 0, 0);
        }
        gives("5+l/h*9", 5);
    }

    private static void truths() {
        for (int v : new int[] {MIN, -2, -1, 1, 2, MAX}) {
            gives("!l", v, 0, 0, 0);
            gives("!!l", v, 0, 0, 1);
            gives("l|h", v, 0, 0, 1);
            gives("h|l", v, 0, 0, 1);
            gives("l&l", v, 0, 0, 1);
            gives("l&h", v, 0, 0, 0);
            gives("h&l", v, 0, 0, 0);
            gives("l&4", v, 0, 0, 1);
        }
        gives("!l", 0, 0, 0, 1);
        gives("l|d", 0, 0, 0, 0);
        gives("l<d", MIN, MAX, 0, 1);
        gives("l>d", MIN, MAX, 0, 0);
        gives("l<d", MAX, MIN, 0, 0);
        gives("l>d", MAX, MIN, 0, 1);
        gives("l=d", MIN, MIN, 0, 1);
        gives("l=d", MIN, MAX, 0, 0);
        gives("l<d", MIN, MIN, 0, 0);
        gives("l>d", MAX, MAX, 0, 0);
        gives("1|l/h", 1);
        gives("0&l%h", 0);
        gives("(l>1)+(d>1)+(h=0)", 3);
    }

    private static void faults() {
        Doc.term("FAULT: the place of the first byte with which no TEXT goes on; how many there are, if it ends too early");
        read("", 0);
        read("l+l+", 4);
        read("(((((l)))))+", 12);
        read("m", 0);
        readFor(1, "l", 0);
        readFor(1, "s+k", 2);
        read(LONG + "l)", 49);
        read(LONG + "l+", 50);
        read(LONG + "()", 49);
        read(LONG + "!(", 50);
        read(")" + LONG, 0);
        read("l)+)", 1);
        read("l<d<h<", 3);
    }

    private static void carries() {
        Doc.term("USES: 0 CARRIES, NAMES l LOUD, d FAR, h HID, w WIND (as the EAR has it");
        OneBreath x = new OneBreath();
        for (int kind = 0; kind < 7; kind++) {
            x.bell(100 * kind, 50, 90 + kind);
        }
        x.ear(60);
        x.ear(40);
        x.ear(50);
        x.hill(55, 4);
        x.hill(45, 3);
        x.set(0, 2);
        named(x, "l", 96, 96, 96);
        named(x, "d", 10, 10, 0);
        named(x, "h", 4, 3, 0);
        named(x, "w", 2, -2, 0);
        named(x, "k", 6, 6, 6);
        x.set(0, -5);
        named(x, "w", -5, 5, 0);
        x.set(0, 0);
        named(x, "w", 0, 0, 0);
        for (int kind = 0; kind < 7; kind++) {
            Due.text(x, 0, "k");
            Due.is("11: k", x.way(kind, 0, 3), kind);
        }
        OneBreath y = new OneBreath();
        y.bell(0, 50, 99);
        y.ear(59);
        y.hill(52, 9);
        y.set(0, -5);
        Due.is("11: without a TEXT", y.way(0, 0, 3), 99 - 9 - 45 - 5);
        Due.text(y, 0, "l+");
        Due.is("11: without one still", y.way(0, 0, 3), 99 - 9 - 45 - 5);
        Due.is("15: that wraps", y.law(0, MAX, -1, 0, 0), MIN);
        Due.is("15: that wraps by h", y.law(0, 0, 0, 1 << 30, 0), -(1 << 30));
        Due.is("15: and by w", y.law(0, MAX, 0, 0, MAX), -2);
    }

    /** Of the STRAY, BELL 6, at each of three EARS. */
    private static void named(OneBreath x, String name, int... due) {
        Due.text(x, 0, name);
        for (int ear = 0; ear < 3; ear++) {
            Due.is("11: " + name + " at EAR " + ear, x.way(6, ear, 3), due[ear]);
        }
    }

    private static void grazes() {
        Doc.term("1 GRAZES (a COW's new SPOT on a DAY, held within 0 to 99, of law(), too)");
        OneBreath x = new OneBreath();
        x.bell(317, 50, 1);
        int[][] due = {{0, 0, 0}, {3, 0, 0}, {3, 1, 1}, {99, 3, 99}, {99, 4, 99}, {102, 0, 99}, {MAX, 2, 99}, {MAX, 4, 0},
            {MIN, 0, 99}, {MIN, 3, 0}};
        for (int[] row : due) {
            Due.is("15: without a TEXT, of " + row[0] + ", " + row[1], x.law(1, row[0], row[1], 0, 0), row[2]);
        }
        grazed(x, "s", 50);
        grazed(x, "m", 17);
        grazed(x, "99", 99);
        grazed(x, "100", 99);
        grazed(x, "9999", 99);
        grazed(x, "0", 0);
        grazed(x, "0-1", 0);
        grazed(x, "9999*9999*30", 0);
        grazed(x, "9999*9999*20", 99);
        for (int z = 0; z < 40; z++) {
            x.seed(z);
            Due.text(x, 1, "s-s+r*14");
            x.days(1);
            int r = (z * 1103515245 + 12345 >>> 8) % 7;
            Due.is("29: r of z " + z, x.ofBell(0, 2), 14 * r);
        }
    }

    private static void grazed(OneBreath x, String words, int due) {
        x.change(0, 2, 50);
        Due.text(x, 1, words);
        Due.is("15: " + words, x.law(1, 50, 0, 17, 0), due);
        x.days(1);
        Due.is("29: a COW where " + words + " gives", x.ofBell(0, 2), due);
    }

    private static void feeds() {
        Doc.promise(13, "The n lowest bytes (1 .. 8) of a word, the lowest first, come to THE TAPE: how many there are");
        OneBreath x = new OneBreath();
        long word = 0x392B382B372B3635L;
        Due.is("13: 1 byte", x.feed(word, 1), 1);
        x.text(0);
        Due.is("13: the lowest", x.law(0, 0, 0, 0, 0), 5);
        Due.is("13: 2 bytes", x.feed(word, 2), 2);
        x.text(0);
        Due.is("13: the lowest first", x.law(0, 0, 0, 0, 0), 56);
        Due.is("13: 8 bytes", x.feed(word, 8), 8);
        x.text(0);
        Due.is("13: to the highest", x.law(0, 0, 0, 0, 0), 56 + 7 + 8 + 9);
        Due.is("13: 7 bytes", x.feed(word, 7), 7);
        Due.is("13: 7 more", x.feed(word, 7), 14);
        Due.is("14: 56+7+8+56+7+8+ ends too early", x.text(0), -24);
        for (int i = 1; i <= 6; i++) {
            x.feed(word, 8);
        }
        Due.is("13: 48, and 3 more", x.feed(word, 3), Due.FULL);
        Due.is("13: nothing came", x.count(4), 48);
        Due.is("13: 48, and 2 more", x.feed(word, 2), 50);
        OneBreath y = new OneBreath();
        Due.is("13: a byte above 127", y.feed(-1L, 1), 1);
        Due.is("14: is no TEXT", y.text(0), -10);
        Due.is("13: bytes above n don't matter", y.feed(-148L, 1), 1);
        Due.is("14: the lowest alone", y.text(0), 1);
        Due.is("15: it is l", y.law(0, 77, 0, 0, 0), 77);
    }

    private static void texts() {
        Doc.promise(14, "THE TAPE, which is empty then, is the TEXT of a USE (0, 1), in place of one ahead: 1");
        OneBreath x = new OneBreath();
        Due.is("14: the first", Due.text(x, 0, "l*2"), 1);
        Due.is("14: THE TAPE is empty then", x.count(4), 0);
        Due.is("14: in place of one ahead", Due.text(x, 0, "l*3"), 1);
        Due.is("14: the new one", x.law(0, 5, 0, 0, 0), 15);
        Due.is("14: of the other USE", Due.text(x, 1, "s*4"), 1);
        Due.is("14: not of this one", x.law(0, 5, 0, 0, 0), 15);
        Due.is("14: but of that", x.law(1, 5, 0, 0, 0), 20);
        Due.is("14: a shorter one", Due.text(x, 0, "l"), 1);
        Due.is("14: nothing left of the longer", x.law(0, 5, 0, 0, 0), 5);
        Doc.promise(14, "-10 less the FAULT (no ERROR; the one ahead stays; THE TAPE is empty, too)");
        Due.is("14: of an empty TAPE", x.text(0), -10);
        Due.is("14: of an empty TAPE, for GRAZES", x.text(1), -10);
        Due.is("14: a FAULT", Due.text(x, 0, "9+)"), -12);
        Due.is("14: THE TAPE is empty, too", x.count(4), 0);
        Due.is("14: the one ahead stays", x.law(0, 5, 0, 0, 0), 5);
        Due.is("14: a FAULT for GRAZES", Due.text(x, 1, "9+l"), -12);
        Due.is("14: the one ahead stays", x.law(1, 5, 0, 0, 0), 20);
        Due.is("14: THE TAPE is empty, too", x.count(4), 0);
        for (int k = 1; k <= 5; k++) {
            Due.is("14: no ERROR", x.told(k), 0);
        }
        x.feed('l', 1);
        Due.is("14: no such USE", x.text(2), Due.BEYOND);
        Due.is("14: no such USE", x.text(-1), Due.BEYOND);
        Due.is("14: THE TAPE stays", x.count(4), 1);
        x.feed('+', 1);
        x.feed('9', 1);
        Due.is("14: as it was, and what came", x.text(0), 1);
        Due.is("15: l+9", x.law(0, 5, 0, 0, 0), 14);
    }

    private static void laws() {
        Doc.promise(15, "What a USE gives with its NAMES in order as a, b, c, d (further ones 0)");
        OneBreath x = new OneBreath();
        Due.text(x, 0, "l*1000+d*100+h*10+w");
        Due.is("15: l, d, h, w in order", x.law(0, 1, 2, 3, 4), 1234);
        Due.is("15: below 0", x.law(0, -1, -2, -3, -4), -1234);
        Due.text(x, 0, "k+9");
        Due.is("15: k is 0", x.law(0, 1, 2, 3, 4), 9);
        Due.text(x, 1, "(s-5)*16+r*4+m");
        Due.is("15: s, r, m in order, d of no use", x.law(1, 6, 2, 3, 99), 27);
        Due.text(x, 0, "l");
        for (int v : new int[] {MIN, Due.KIND, Due.BEYOND, Due.LOW, -1, 0, MAX}) {
            Due.is("15: any number", x.law(0, v, 0, 0, 0), v);
        }
        for (int k = 1; k <= 5; k++) {
            Due.is("15: and no ERROR", x.told(k), 0);
        }
        OneBreath y = new OneBreath();
        y.bell(0, 50, 99);
        y.law(0, 5, 5, 5, 5);
        y.ear(50);
        Due.is("15: what was told once is gone", y.way(0, 0, 3), 99);
    }
}
