import java.lang.reflect.Method;
import java.util.Arrays;
import java.util.Comparator;
import java.util.Random;

/** All promises: random runs of at most 512 calls answer as PlainModel does. */
public final class ModelTest {
    private static final int[] EDGES = {-1, 0, 1, 2, 3, 7, 8, 9, 23, 24, 40, 60, 61, 99, 100, -900, -901, 901,
        Integer.MAX_VALUE, Integer.MIN_VALUE};
    private static final String[] TEXTS = {"l-d-5*h+w", "s+r-3", "l", "1", "l*2-d", "99-l", "l%7+w*3-h", "k*9-d%5",
        "l>50&d<40", "!(d>l)", "s*r", "s+m-r", "99-s", "(s+r*m)%100", "r*13", "l/(d-9)", "w+5", "k=0|l>70",
        "((l))-h*(w>0)", "l<d<h", "s+", "(((((l)))))", "!!!!!!l", "12345", "k|!(l=50)"};
    private static final String BYTES = "ldhwksrm0159!!(()))||&&<<==>>++--**//%%";

    private static final int MOST_CALLS = 512;

    private static Method[] ofOne;
    private static Random random;
    private static PlainModel model;
    private static OneBreath one;
    private static String lately = "";
    private static int calls;

    private ModelTest() {
    }

    public static void main(String[] args) throws Exception {
        int runs = args.length > 0 ? Integer.parseInt(args[0]) : 400;
        long first = args.length > 1 ? Long.parseLong(args[1]) : 1;
        ofOne = OneBreath.class.getDeclaredMethods();
        ofOne = Arrays.stream(ofOne).filter(m -> java.lang.reflect.Modifier.isPublic(m.getModifiers()))
            .sorted(Comparator.comparing(Method::getName)).toArray(Method[]::new);
        for (long run = first; run < first + runs; run++) {
            random = new Random(run * 7919);
            model = new PlainModel();
            one = new OneBreath();
            lately = "";
            calls = 0;
            if (random.nextInt(4) > 0) {
                furnish();
            }
            for (int i = 0; i < MOST_CALLS; i++) {
                step(run, i);
            }
        }
        Due.end("ModelTest");
    }

    /** BELLS and EARS close together, so that much clashes. */
    private static void furnish() throws Exception {
        int middle = random.nextInt(100);
        int bells = 2 + random.nextInt(7);
        int ears = 1 + random.nextInt(10);
        for (int i = 0; i < bells; i++) {
            int km = 100 * random.nextInt(7) + random.nextInt(24);
            call("bell", km, near(middle), 30 + random.nextInt(70));
        }
        for (int i = 0; i < ears; i++) {
            call("ear", near(middle));
        }
        for (int i = 0; i < bells; i++) {
            call("change", i, 4, random.nextInt(121) - 60);
        }
        for (int i = 0; i < bells && random.nextBoolean(); i++) {
            call("change", i, 5, random.nextInt(4));
        }
        for (int i = 0; i < 3; i++) {
            call("hill", near(middle), random.nextInt(4));
        }
        call("set", 0, random.nextInt(11) - 5);
        call("set", 1, random.nextInt(31));
        call("set", 2, random.nextInt(301));
    }

    private static int near(int middle) {
        return Math.max(0, Math.min(99, middle + random.nextInt(31) - 15));
    }

    private static void call(String name, Object... args) throws Exception {
        for (Method method : ofOne) {
            if (method.getName().equals(name)) {
                compare(method, args);
            }
        }
    }

    private static void compare(Method method, Object[] args) throws Exception {
        if (calls == MOST_CALLS) {
            return;
        }
        calls++;
        int got = (Integer) method.invoke(one, args);
        Method same = PlainModel.class.getMethod(method.getName(), method.getParameterTypes());
        int want = (Integer) same.invoke(model, args);
        lately += method.getName() + Arrays.toString(args) + " ";
        Due.is(got == want ? "" : lately, got, want);
    }

    private static void step(long run, int i) throws Exception {
        if (i % 64 == 0) {
            lately = "run " + run + " .. ";
        }
        int choice = random.nextInt(60);
        if (choice == 0) {
            feedText(TEXTS[random.nextInt(TEXTS.length)]);
        } else if (choice == 1) {
            feedText(randomText());
        } else if (choice < 4) {
            tellAll();
        } else {
            Method method = ofOne[random.nextInt(ofOne.length)];
            Class<?>[] types = method.getParameterTypes();
            Object[] args = new Object[types.length];
            for (int k = 0; k < args.length; k++) {
                args[k] = types[k] == long.class ? (Object) random.nextLong() : (Object) argument(method.getName(), k);
            }
            compare(method, args);
        }
    }

    private static void feedText(String words) throws Exception {
        for (int from = 0; from < words.length(); from += 8) {
            int n = Math.min(8, words.length() - from);
            long word = 0;
            for (int i = 0; i < n; i++) {
                word |= (long) words.charAt(from + i) << (8 * i);
            }
            call("feed", word, n);
        }
        call("text", random.nextInt(2));
    }

    private static String randomText() {
        if (random.nextBoolean()) {
            return grown(random.nextInt(2) == 0 ? "ldhwk" : "srm", 4);
        }
        StringBuilder words = new StringBuilder();
        int n = random.nextInt(51);
        for (int i = 0; i < n; i++) {
            words.append(BYTES.charAt(random.nextInt(BYTES.length())));
        }
        return words.toString();
    }

    private static String grown(String names, int deep) {
        int choice = random.nextInt(deep <= 0 ? 2 : 8);
        if (choice == 0) {
            return "" + random.nextInt(random.nextBoolean() ? 10 : 10000);
        }
        if (choice < 3) {
            return "" + names.charAt(random.nextInt(names.length()));
        }
        if (choice == 3) {
            return "!" + grown(names, deep - 2);
        }
        if (choice == 4) {
            return "(" + grown(names, deep - 1) + ")";
        }
        char sign = "|&<=>+-*/%".charAt(random.nextInt(10));
        return grown(names, deep - 1) + sign + grown(names, deep - 1);
    }

    private static void tellAll() throws Exception {
        int bells = model.count(0);
        for (int i = 0; i < bells; i++) {
            call("tell", random.nextInt(60) == 0 ? 901 : random.nextInt(40 * bells + 1) - 20 * bells);
        }
        call("check", random.nextInt(24));
    }

    private static int argument(String name, int k) {
        if (random.nextInt(40) == 0) {
            return EDGES[random.nextInt(EDGES.length)];
        }
        switch (name + k) {
            case "hill0":
            case "bell1":
            case "bell2":
            case "ear0":
            case "hangs0":
                return random.nextInt(100);
            case "hill1":
                return random.nextInt(5) == 0 ? random.nextInt(10) : 0;
            case "bell0":
                return 100 * random.nextInt(7) + random.nextInt(24);
            case "set1":
                return random.nextInt(20) - 5;
            case "ofBell0":
            case "change0":
            case "as0":
            case "strikes0":
            case "way0":
            case "clash0":
            case "apart0":
            case "apart1":
            case "slate0":
            case "holds0":
            case "chance0":
            case "then1":
            case "voice0":
                return random.nextInt(8);
            case "way1":
            case "heard0":
                return random.nextInt(10);
            case "strikes1":
            case "heard1":
            case "clashes0":
            case "clash1":
            case "apart2":
            case "slate1":
            case "least0":
            case "hang0":
            case "silence0":
            case "winds0":
            case "holds1":
            case "chance1":
            case "hangs1":
            case "place0":
            case "check0":
                return random.nextInt(24);
            case "clashes1":
            case "quiet0":
            case "slate2":
            case "silence1":
            case "holds2":
            case "chance2":
            case "place1":
            case "text0":
            case "law0":
                return random.nextInt(2);
            default:
                return other(name + k);
        }
    }

    private static int other(String what) {
        switch (what) {
            case "ofBell1":
            case "as1":
                return random.nextInt(7);
            case "change1":
                return 2 + random.nextInt(5);
            case "change2":
                return random.nextInt(3) == 0 ? random.nextInt(2) : random.nextInt(130) - 30;
            case "set0":
                return random.nextInt(3);
            case "days0":
            case "then0":
                return random.nextInt(61);
            case "ears0":
            case "sheet0":
            case "put0":
            case "move0":
            case "move2":
                return random.nextInt(4);
            case "sheet1":
                return random.nextInt(8) == 0 ? 0 : 8 << random.nextInt(3);
            case "sheet2":
                return random.nextInt(43) - 1;
            case "put1":
            case "move1":
            case "move3":
            case "move4":
                return random.nextInt(12);
            case "put2":
                return random.nextInt(3) == 0 ? random.nextInt() : random.nextInt(100);
            case "voice1":
            case "way2":
                return random.nextInt(5);
            case "trace0":
                return random.nextInt(10);
            case "feed1":
                return 1 + random.nextInt(8);
            case "count0":
                return random.nextInt(8);
            case "told0":
                return 1 + random.nextInt(5);
            default:
                return random.nextInt(4) == 0 ? random.nextInt() : random.nextInt(200) - 50;
        }
    }
}
