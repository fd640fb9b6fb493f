/** Compares answers with what is due, and ends a test's program by what it found. */
final class Due {
    static final int LOW = -1000000000;
    static final int BEYOND = LOW - 1;
    static final int NONE = LOW - 2;
    static final int STATE = LOW - 3;
    static final int FULL = LOW - 4;
    static final int KIND = LOW - 5;

    /** A call on an object. */
    interface Call {
        int on(OneBreath x);
    }

    /** Makes an object, and calls it so that it has something in it. */
    interface Made {
        OneBreath object();
    }

    private static int asked;
    private static int wrong;

    private Due() {
    }

    static void is(String what, long got, long want) {
        asked++;
        if (got != want) {
            wrong++;
            System.out.println(what + " answered " + got + ", due is " + want);
        }
    }

    static void is(String what, String got, String want) {
        asked++;
        if (!got.equals(want)) {
            wrong++;
            System.out.println(what + " is\n  " + got + "\ndue is\n  " + want);
        }
    }

    /** On a new object, as made, the call answers an ERROR, and changes nothing but what told() tells, by one. */
    static void refuses(String what, Made made, int error, Call call) {
        OneBreath x = made.object();
        String before = seen(x);
        int[] toldBefore = told(x);
        is(what, call.on(x), error);
        int[] toldAfter = told(x);
        for (int k = 1; k <= 5; k++) {
            is(what + ", then told(" + k + ")", toldAfter[k], toldBefore[k] + (LOW - k == error ? 1 : 0));
        }
        is("what is seen after " + what, seen(x), before);
    }

    private static int[] told(OneBreath x) {
        int[] told = new int[6];
        for (int k = 1; k <= 5; k++) {
            told[k] = x.told(k);
        }
        return told;
    }

    /** Much of what can be seen of an object without an ERROR and without a change that stays. */
    static String seen(OneBreath x) {
        StringBuilder seen = new StringBuilder();
        for (int what = 0; what <= 7; what++) {
            seen.append("count").append(what).append('=').append(x.count(what)).append(' ');
        }
        for (int what = 0; what <= 2; what++) {
            int v = x.set(what, 0);
            x.set(what, v);
            seen.append("set").append(what).append('=').append(v).append(' ');
        }
        for (int spot = 0; spot < 100; spot += 11) {
            int v = x.hill(spot, 0);
            x.hill(spot, v);
            seen.append(v);
        }
        int bells = x.count(0);
        for (int bell = 0; bell < bells; bell++) {
            seen.append(" bell").append(bell).append(':');
            for (int what = 0; what <= 6; what++) {
                seen.append(x.ofBell(bell, what)).append(',');
            }
            int ears = Math.min(3, x.count(1));
            for (int ear = 0; ear < ears; ear++) {
                seen.append(x.way(bell, ear, 0)).append('/').append(x.way(bell, ear, 3)).append(';');
            }
        }
        int bodies = x.count(6);
        for (int i = 0; i < bodies; i++) {
            seen.append(" body").append(x.trace(i));
        }
        seen.append(" laws ").append(x.law(0, 50, 7, 2, 3)).append(' ').append(x.law(1, 40, 5, 3, 0));
        return seen.toString();
    }

    /** A text to THE TAPE, by as many feeds as it needs; what the last one answered. */
    static int feed(OneBreath x, String words) {
        int size = 0;
        for (int from = 0; from < words.length(); from += 8) {
            int n = Math.min(8, words.length() - from);
            long word = 0;
            for (int i = 0; i < n; i++) {
                word |= (long) words.charAt(from + i) << (8 * i);
            }
            size = x.feed(word, n);
        }
        return size;
    }

    static int text(OneBreath x, int use, String words) {
        feed(x, words);
        return x.text(use);
    }

    static void end(String name) {
        System.out.println(name + ": " + asked + " answers asked, " + wrong + " not as due");
        if (wrong != 0) {
            System.exit(1);
        }
    }
}
