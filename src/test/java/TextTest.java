/** Promises 13 to 15: texts. */
public final class TextTest {
    private static final int MAX = Integer.MAX_VALUE;
    private static final int MIN = Integer.MIN_VALUE;

    private TextTest() {
    }

    public static void main(String[] args) {
        promise13();
        faults();
        promise14();
        values();
        promise15();
        Due.end("TextTest");
    }

    private static OneBreath longTape() {
        OneBreath x = ValleyTest.village();
        Due.feed(x, "+l+l+l+l+l+l+l+l+l+l+l+l+l+l+l+l+l+l+l+l+l+l");
        return x;
    }

    private static void promise13() {
        OneBreath x = new OneBreath();
        Due.is("13: one byte", x.feed(0x2B6CL, 1), 1);
        Due.is("13: two bytes", x.feed(0x7777342BL, 2), 3);
        Due.is("13: the lowest first", x.text(0), 1);
        Due.is("13: of which THE TAPE was made", x.law(0, 5, 0, 0, 0), 9);
        Due.is("13: eight bytes", x.feed(0x312B312B312B316CL, 8), 8);
        Due.is("13: no digits behind a digit's TEXT", x.text(0), -11);
        for (int i = 1; i <= 6; i++) {
            Due.is("13: feed", x.feed(-1L, 8), 8 * i);
        }
        Due.is("13: one too many", x.feed(-1L, 3), Due.FULL);
        Due.is("13: count(4)", x.count(4), 48);
        Due.is("13: BEYOND ahead of FULL", x.feed(-1L, 9), Due.BEYOND);
        Due.is("13: up to 50", x.feed(-1L, 2), 50);
        Due.is("13: no more", x.feed(-1L, 1), Due.FULL);
        for (int n : new int[] {0, -1, 9, MAX, MIN}) {
            Due.refuses("13: feed", ValleyTest::village, Due.BEYOND, o -> o.feed(1L, n));
        }
        Due.refuses("13: feed", TextTest::longTape, Due.FULL, o -> o.feed(1L, 6));
        Due.is("13: as much as goes", longTape().feed(1L, 5), 50);
    }

    private static void fault(int use, String words, int due) {
        OneBreath x = new OneBreath();
        String other = use == 0 ? "l*7" : "s*3";
        Due.text(x, use, other);
        Due.is("14: text of " + words, Due.text(x, use, words), due < 0 ? 1 : -10 - due);
        Due.is("14: THE TAPE is empty", x.count(4), 0);
        if (due >= 0) {
            Due.is("14: the one ahead stays", x.law(use, 5, 5, 5, 5), use == 0 ? 35 : 15);
        }
        Due.is("14: the other one stays", x.law(1 - use, 20, 2, 2, 2), use == 0 ? 19 : 10);
    }

    private static void faults() {
        fault(0, "", 0);
        fault(0, "l", -1);
        fault(0, "m", 0);
        fault(1, "l", 0);
        fault(1, "s+r*m", -1);
        fault(0, "l+d*h-w/k%9", -1);
        fault(0, "0", -1);
        fault(0, "9999", -1);
        fault(0, "0000", -1);
        fault(0, "12345", 4);
        fault(0, "l+12345", 6);
        fault(0, "(12345", 5);
        fault(0, "-l", 0);
        fault(0, "+l", 0);
        fault(0, "l-", 2);
        fault(0, "l+-d", 2);
        fault(0, "l d", 1);
        fault(0, " l", 0);
        fault(0, "ld", 1);
        fault(0, "l5", 1);
        fault(0, "5l", 1);
        fault(0, "l(d)", 1);
        fault(0, "(l)d", 3);
        fault(0, "l!d", 1);
        fault(0, "()", 1);
        fault(0, "(", 1);
        fault(0, "!", 1);
        fault(0, ")", 0);
        fault(0, "l)", 1);
        fault(0, "(l))", 3);
        fault(0, "(l", 2);
        fault(0, "(l+", 3);
        fault(0, "l<d", -1);
        fault(0, "l<d<h", 3);
        fault(0, "l=d>h", 3);
        fault(0, "l<d+h<w", 5);
        fault(0, "l<d&h<w|k=1", -1);
        fault(0, "(l<d)<h", -1);
        fault(0, "l<(d<h)", -1);
        fault(0, "l<(d<h<w)", 6);
        fault(0, "l==d", 2);
        fault(0, "l&&d", 2);
        fault(0, "l|", 2);
        fault(0, "l*/d", 2);
        fault(0, "!!!!!l", -1);
        fault(0, "!!!!!!l", 5);
        fault(0, "(((((l)))))", -1);
        fault(0, "((((((l))))))", 5);
        fault(0, "!(!(!l))", -1);
        fault(0, "!(!(!(l)))", 5);
        fault(0, "!(!(!!l))", 5);
        fault(0, "!!!!!l+!!!!!d", -1);
        fault(0, "(((((l)))))*(((((d)))))", -1);
        fault(0, "((((!l+!d))))", -1);
        fault(0, "((((!l+!!d))))", 8);
        fault(0, "((((l)+(!d))))", -1);
        fault(0, "(((((l)+(!d)))))", 9);
        fault(0, "(((l)+(!d)))", -1);
        fault(0, "!l)", 2);
        fault(0, "l\u0000", 1);
        fault(0, "\u00ff", 0);
        fault(0, "L", 0);
        fault(1, "r+s*", 4);
        fault(1, "s+w", 2);
        fault(0, "l+l+l+l+l+l+l+l+l+l+l+l+l+l+l+l+l+l+l+l+l+l+l+l+10", -1);
        fault(0, "l+l+l+l+l+l+l+l+l+l+l+l+l+l+l+l+l+l+l+l+l+l+l+l+l+", 50);
        fault(0, "l|l&l<l+l*(l|l&l<l+l*(l|l&l<l+l*(l|l&l<l+l*(l))))", -1);
    }

    private static void promise14() {
        OneBreath x = new OneBreath();
        Due.feed(x, "l*2");
        Due.is("14: no such USE", x.text(2), Due.BEYOND);
        Due.is("14: no such USE", x.text(-1), Due.BEYOND);
        Due.is("14: THE TAPE stays", x.count(4), 3);
        Due.is("14: and can be read", x.text(0), 1);
        Due.is("14: as it was", x.law(0, 21, 1, 1, 1), 42);
        Due.is("14: in place of one ahead", Due.text(x, 0, "l*3"), 1);
        Due.is("14: the new one", x.law(0, 21, 1, 1, 1), 63);
        Due.is("14: a FAULT is no ERROR", Due.text(x, 0, "l*"), -12);
        for (int k = 2; k <= 5; k++) {
            Due.is("14: told", x.told(k), 0);
        }
        Due.is("14: told(1)", x.told(1), 2);
        for (int use : new int[] {-1, 2, MAX, MIN}) {
            Due.refuses("14: text", ValleyTest::village, Due.BEYOND, o -> o.text(use));
        }
        x.bell(300, 50, 50);
        x.ear(50);
        Due.text(x, 1, "m+90");
        x.days(1);
        Due.is("14: GRAZES is used", x.ofBell(0, 2), 90);
        Due.text(x, 0, "d");
        Due.is("14: CARRIES is used", x.way(0, 0, 3), 40);
    }

    private static void value(String words, int due) {
        OneBreath x = new OneBreath();
        Due.text(x, 0, words);
        Due.is("15: " + words, x.law(0, 7, -3, 0, 2), due);
    }

    /** With l 7, d -3, h 0, w 2, k 0. */
    private static void values() {
        value("l", 7);
        value("d", -3);
        value("h", 0);
        value("w", 2);
        value("k", 0);
        value("0042", 42);
        value("l-d-w", 8);
        value("l-w*w", 3);
        value("l*w-d", 17);
        value("100/7/2", 7);
        value("100/(7/2)", 33);
        value("d/2", -1);
        value("d%2", -1);
        value("l%d", 1);
        value("l/d", -2);
        value("l/h", 0);
        value("l%h", 0);
        value("l/h+1", 1);
        value("17%10*3", 21);
        value("l<8", 1);
        value("l<7", 0);
        value("l>6", 1);
        value("l>7", 0);
        value("l=7", 1);
        value("l=d", 0);
        value("l+1<d+20", 1);
        value("d<h", 1);
        value("!l", 0);
        value("!h", 1);
        value("!!d", 1);
        value("!h+5", 6);
        value("!h*5", 5);
        value("!(h+5)", 0);
        value("l|h", 1);
        value("h|k", 0);
        value("h|d", 1);
        value("l&d", 1);
        value("l&h", 0);
        value("h&h|l", 1);
        value("l|h&h", 1);
        value("(l|h)&h", 0);
        value("l=7&d=1", 0);
        value("1|0&0", 1);
        value("w&4", 1);
        value("1&1", 1);
        value("1&w", 1);
        value("w&1", 1);
        value("1|1", 1);
        value("h|1", 1);
        value("9999*9999*9999", 9999 * 9999 * 9999);
        value("9999*9999*9999*9999", 9999 * 9999 * 9999 * 9999);
        value("0-9999*9999*30", -9999 * 9999 * 30);
        value("l+(w*(l-(d+(w*(l)))))", 7 + 2 * (7 - (-3 + 2 * 7)));
        value("l|l&l<l+l*(l|l&l<l+l*(l|l&l<l+l*(l|l&l<l+l*(l))))", 1);
    }

    private static void promise15() {
        OneBreath x = new OneBreath();
        Due.is("15: CARRIES at first", x.law(0, 90, 7, 3, -4), 90 - 7 - 15 - 4);
        Due.is("15: CARRIES that wraps", x.law(0, MIN, 1, 0, 0), MAX);
        Due.is("15: an answer that looks like an ERROR", x.law(0, Due.BEYOND, 0, 0, 0), Due.BEYOND);
        Due.is("15: is none", x.told(1), 0);
        Due.is("15: GRAZES at first", x.law(1, 50, 6, 9, 9), 53);
        Due.is("15: GRAZES at first", x.law(1, 50, 0, 9, 9), 47);
        Due.is("15: held above", x.law(1, 99, 6, 0, 0), 99);
        Due.is("15: held below", x.law(1, 2, 0, 0, 0), 0);
        Due.is("15: held when it wraps", x.law(1, MAX, 6, 0, 0), 0);
        Due.text(x, 1, "m*10+r");
        Due.is("15: its third NAME", x.law(1, 1, 2, 3, 4), 32);
        Due.text(x, 0, "l*1000+d*100+h*10+w+k*5000");
        Due.is("15: NAMES in order, k 0", x.law(0, 1, 2, 3, 4), 1234);
        Due.text(x, 0, "l/d");
        Due.is("15: the least by -1", x.law(0, MIN, -1, 0, 0), MIN);
        Due.text(x, 0, "l%d");
        Due.is("15: what that leaves", x.law(0, MIN, -1, 0, 0), 0);
        for (int use : new int[] {-1, 2, MAX, MIN}) {
            Due.refuses("15: law", ValleyTest::village, Due.BEYOND, o -> o.law(use, 1, 2, 3, 4));
        }
    }
}
