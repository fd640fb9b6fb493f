/** Objects made alike, of which one is asked for something that it refuses: all that can be seen stays alike. */
final class Twins {
    private static final int[] SIZES = {0, 1, 2, 4, 5, 40};

    private Twins() {
    }

    /** The call answers an ERROR, which told() counts once; nothing else is another than on an object without the call. */
    static void refuse(String what, Due.Made made, int error, Due.Call call) {
        OneBreath asked = made.object();
        OneBreath twin = made.object();
        Due.is(what, call.on(asked), error);
        for (int k = 1; k <= 5; k++) {
            Due.is(what + ", then told(" + k + ")", asked.told(k), twin.told(k) + (Due.LOW - k == error ? 1 : 0));
        }
        Due.is("all that is seen after " + what, everything(asked), everything(twin));
    }

    /** The call answers no ERROR. */
    static void take(String what, Due.Made made, Due.Call call) {
        OneBreath x = made.object();
        int before = errors(x);
        int answer = call.on(x);
        Due.is(what + " answered " + answer + "; told in all", errors(x), before);
    }

    private static int errors(OneBreath x) {
        int errors = 0;
        for (int k = 1; k <= 5; k++) {
            errors += x.told(k);
        }
        return errors;
    }

    /** All of an object, by calls that leave nothing of it as it was; some 420 at most. */
    static String everything(OneBreath x) {
        StringBuilder seen = new StringBuilder();
        int bodies = x.count(6);
        for (int i = 0; i < bodies; i++) {
            seen.append(x.trace(i)).append(' ');
        }
        all(x, seen);
        seen.append(" || ").append(x.restore()).append(' ');
        all(x, seen);
        seen.append(" || ").append(x.image());
        for (int sheet = 0; sheet < 4; sheet++) {
            sheet(x, sheet, seen);
        }
        return seen.toString();
    }

    /** All that an IMAGE keeps. */
    private static void all(OneBreath x, StringBuilder seen) {
        for (int what = 0; what <= 7; what++) {
            seen.append(x.count(what)).append(' ');
        }
        for (int what = 1; what <= 2; what++) {
            int v = x.set(what, 0);
            x.set(what, v);
            seen.append(v).append(' ');
        }
        int bells = x.count(0);
        for (int bell = 0; bell < bells; bell++) {
            for (int what = 0; what <= 6; what++) {
                seen.append(x.ofBell(bell, what)).append(what == 6 ? " " : ",");
            }
        }
        seen.append(" laws ");
        for (int v = 20; v <= 60; v += 20) {
            seen.append(x.law(0, v, 7, 2, 3)).append(' ').append(x.law(1, v, 5, 3, 0)).append(' ');
        }
        seen.append(" waiting ").append(x.check(12)).append(" tape ").append(x.text(0)).append(' ');
        seen.append(x.law(0, 31, 8, 3, 4)).append(" hills ");
        for (int spot = 0; spot < 100; spot += 3) {
            seen.append(x.hill(spot, 0));
        }
        if (bells == 0) {
            x.bell(0, 0, 0);
        }
        seen.append(" ears ");
        ears(x, 0, seen);
    }

    private static void ears(OneBreath x, int first, StringBuilder seen) {
        x.change(0, 2, 0);
        int ears = x.count(1);
        for (int ear = first; ear < ears; ear++) {
            seen.append(x.way(0, ear, 0)).append(' ');
        }
    }

    /** Its numbers as far as they are SPOTS and have room, its size, its bits. */
    private static void sheet(OneBreath x, int sheet, StringBuilder seen) {
        int had = x.count(1);
        seen.append(" sheet ").append(x.ears(sheet)).append(": ");
        ears(x, had, seen);
        x.restore();
        for (int n : SIZES) {
            seen.append(x.move(sheet, 0, sheet, 0, n)).append(' ');
        }
        for (int shift = 8; shift <= 16; shift += 8) {
            x.put(sheet, 0, (1 << shift) + 1);
            seen.append(x.ears(sheet) > 0 ? "cut " : "whole ");
            x.restore();
        }
    }
}
