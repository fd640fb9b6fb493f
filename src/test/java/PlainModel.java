import java.util.ArrayList;
import java.util.List;

/** The document once more, in another way: whatever would be is tried on a copy, and nothing is worked out ahead. */
public final class PlainModel {
    private static final int LOW = -1000000000;

    /** A BELL whose VOICES are Java's own. */
    static class Bell implements Cloneable {
        int kind;
        int m;
        int n;
        int spot;
        int loud;
        int offset;
        int rank = 1;
        int silent;
        List<Integer> trace = new ArrayList<>();

        boolean hour(int h) {
            return true;
        }

        int rings(int x) {
            trace.add(10);
            return x + n;
        }

        int swings(int x) {
            trace.add(11);
            return rings(x) * 2;
        }

        int hums(int x) {
            trace.add(12);
            return x - m;
        }

        int tells(int x) {
            trace.add(13);
            return swings(x) ^ hums(x);
        }

        Bell copy() {
            try {
                return (Bell) clone();
            } catch (CloneNotSupportedException e) {
                throw new IllegalStateException(e);
            }
        }
    }

    static class Church extends Bell {
        @Override
        boolean hour(int h) {
            return h >= 6 && h <= 22;
        }

        @Override
        int swings(int x) {
            trace.add(20);
            return super.swings(x) - hums(1);
        }
    }

    static class School extends Bell {
        @Override
        boolean hour(int h) {
            return h == 8 || h == 12 || h == 16;
        }

        @Override
        int rings(int x) {
            trace.add(30);
            return super.rings(x) * 3;
        }
    }

    static class Cow extends Bell {
        @Override
        int hums(int x) {
            trace.add(40);
            return -super.hums(x);
        }
    }

    static class Tower extends Church {
        @Override
        boolean hour(int h) {
            return super.hour(h) || h == 0;
        }

        @Override
        int swings(int x) {
            trace.add(50);
            return super.swings(x + 1);
        }
    }

    static class Feast extends Church {
        @Override
        boolean hour(int h) {
            return super.hour(h) && h == m;
        }

        @Override
        int tells(int x) {
            trace.add(60);
            return super.tells(x) - rings(2);
        }
    }

    static class Stray extends Cow {
        @Override
        boolean hour(int h) {
            return super.hour(h) && h != m;
        }

        @Override
        int hums(int x) {
            trace.add(70);
            return super.hums(x) ^ n;
        }

        @Override
        int tells(int x) {
            trace.add(71);
            return swings(x) - super.tells(x);
        }
    }

    /** All that an IMAGE keeps. */
    static class State {
        int[] hills = new int[100];
        int[] sets = {0, 3, 60};
        List<Bell> bells = new ArrayList<>();
        List<Integer> ears = new ArrayList<>();
        String tape = "";
        String[] texts = {"l-d-5*h+w", "s+r-3"};
        int z = 1;
        List<Integer> waiting = new ArrayList<>();

        State copy() {
            State s = new State();
            s.hills = hills.clone();
            s.sets = sets.clone();
            for (Bell b : bells) {
                s.bells.add(b.copy());
            }
            s.ears = new ArrayList<>(ears);
            s.tape = tape;
            s.texts = texts.clone();
            s.z = z;
            s.waiting = new ArrayList<>(waiting);
            return s;
        }
    }

    private State s = new State();
    private State kept;
    private int images;
    private List<Integer> trace = new ArrayList<>();
    private final int[][] sheets = new int[4][];
    private final int[] bits = new int[4];
    private final int[] told = new int[6];

    private int no(int k) {
        told[k]++;
        return LOW - k;
    }

    private static boolean in(int v, int low, int high) {
        return v >= low && v <= high;
    }

    private boolean bellIs(int b) {
        return in(b, 0, s.bells.size() - 1);
    }

    // ---- texts

    private static final String[] NAMES = {"ldhwk", "srm"};

    /** The FAULT, or -1: a walk over the bytes with a stack of what is open. */
    static int fault(String text, String names) {
        StringBuilder open = new StringBuilder();
        List<Boolean> compared = new ArrayList<>();
        compared.add(false);
        boolean wanted = true;
        int digits = 0;
        for (int i = 0; i < text.length(); i++) {
            char c = text.charAt(i);
            boolean digit = c >= '0' && c <= '9';
            if (wanted) {
                if (c == '!' || c == '(') {
                    if (open.length() == 5) {
                        return i;
                    }
                    open.append(c);
                    if (c == '(') {
                        compared.add(false);
                    }
                    continue;
                }
                if (!digit && names.indexOf(c) < 0) {
                    return i;
                }
                digits = digit ? 1 : 0;
                wanted = false;
                shut(open);
                continue;
            }
            int last = compared.size() - 1;
            if (digit && digits > 0 && digits < 4) {
                digits++;
            } else if (c == ')' && open.length() > 0) {
                open.setLength(open.length() - 1);
                compared.remove(last);
                shut(open);
                digits = 0;
            } else if ("<=>".indexOf(c) >= 0) {
                if (compared.get(last)) {
                    return i;
                }
                compared.set(last, true);
                wanted = true;
            } else if ("|&".indexOf(c) >= 0) {
                compared.set(last, false);
                wanted = true;
            } else if ("+-*/%".indexOf(c) >= 0) {
                wanted = true;
            } else {
                return i;
            }
        }
        return wanted || open.length() > 0 ? text.length() : -1;
    }

    private static void shut(StringBuilder open) {
        while (open.length() > 0 && open.charAt(open.length() - 1) == '!') {
            open.setLength(open.length() - 1);
        }
    }

    private static final String[] SIGNS = {"|", "&", "<=>", "+-", "*/%"};

    /** A TEXT without FAULT: it is split at the last sign that binds least. */
    static int value(String text, String names, int[] values) {
        for (String signs : SIGNS) {
            int deep = 0;
            for (int i = text.length() - 1; i > 0; i--) {
                char c = text.charAt(i);
                deep += c == ')' ? 1 : c == '(' ? -1 : 0;
                if (deep == 0 && signs.indexOf(c) >= 0) {
                    int left = value(text.substring(0, i), names, values);
                    int right = value(text.substring(i + 1), names, values);
                    return joined(c, left, right);
                }
            }
        }
        char c = text.charAt(0);
        if (c == '!') {
            return value(text.substring(1), names, values) == 0 ? 1 : 0;
        }
        if (c == '(') {
            return value(text.substring(1, text.length() - 1), names, values);
        }
        return names.indexOf(c) >= 0 ? values[names.indexOf(c)] : Integer.parseInt(text);
    }

    private static int joined(char c, int a, int b) {
        if (c == '|') {
            return a != 0 || b != 0 ? 1 : 0;
        }
        if (c == '&') {
            return a != 0 && b != 0 ? 1 : 0;
        }
        if ("<=>".indexOf(c) >= 0) {
            return Integer.compare(a, b) == "<=>".indexOf(c) - 1 ? 1 : 0;
        }
        if (c == '+') {
            return a + b;
        }
        if (c == '-') {
            return a - b;
        }
        if (c == '*') {
            return a * b;
        }
        if (b == 0) {
            return 0;
        }
        return c == '/' ? (int) ((long) a / b) : (int) ((long) a % b);
    }

    // ---- what reaches whom

    private static int far(Bell b, int ear) {
        return Math.abs(b.spot - ear);
    }

    private int hid(Bell b, int ear) {
        int sum = 0;
        for (int i = 0; i < 100; i++) {
            if (i > b.spot && i < ear || i < b.spot && i > ear) {
                sum += s.hills[i];
            }
        }
        return sum;
    }

    private int walk(Bell b, int ear) {
        int against = s.sets[0] * far(b, ear) / 5;
        int way = 3 * far(b, ear);
        way += ear > b.spot ? -against : ear < b.spot ? against : 0;
        return Math.max(0, way);
    }

    private int strength(Bell b, int ear) {
        int w = s.sets[0] * Integer.compare(ear, b.spot);
        return value(s.texts[0], NAMES[0], new int[] {b.loud, far(b, ear), hid(b, ear), w, b.kind});
    }

    private static boolean sounds(Bell b, int hour) {
        return b.silent == 0 && b.hour(hour);
    }

    private boolean reaches(Bell b, int ear, int hour) {
        return sounds(b, hour) && strength(b, ear) > 0;
    }

    /** CLASHES as rows of one, other, EAR. */
    private List<int[]> all(int hour) {
        List<int[]> found = new ArrayList<>();
        for (int one = 0; one < s.bells.size(); one++) {
            for (int other = one + 1; other < s.bells.size(); other++) {
                for (int e = 0; e < s.ears.size(); e++) {
                    if (pair(s.bells.get(one), s.bells.get(other), s.ears.get(e), hour)) {
                        found.add(new int[] {one, other, e});
                    }
                }
            }
        }
        return found;
    }

    private boolean pair(Bell a, Bell b, int ear, int hour) {
        int between = a.offset + walk(a, ear) - b.offset - walk(b, ear);
        return between <= s.sets[1] && between >= -s.sets[1] && reaches(a, ear, hour) && reaches(b, ear, hour);
    }

    private int with(int bell, int hour) {
        int count = 0;
        for (int[] c : all(hour)) {
            if (c[0] == bell || c[1] == bell) {
                count++;
            }
        }
        return count;
    }

    private boolean clashing(Bell b, int hour) {
        for (Bell other : s.bells) {
            for (int ear : s.ears) {
                if (other != b && pair(b, other, ear, hour)) {
                    return true;
                }
            }
        }
        return false;
    }

    // ---- the face

    public int hill(int spot, int v) {
        if (!in(spot, 0, 99) || !in(v, 0, 9)) {
            return no(1);
        }
        int was = s.hills[spot];
        s.hills[spot] = v;
        return was;
    }

    public int set(int what, int v) {
        if (!in(what, 0, 2) || !in(v, what == 0 ? -5 : 0, new int[] {5, 30, 300}[what])) {
            return no(1);
        }
        int was = s.sets[what];
        s.sets[what] = v;
        return was;
    }

    private static Bell made(int kind) {
        Bell[] kinds = {new Bell(), new Church(), new School(), new Cow(), new Tower(), new Feast(), new Stray()};
        kinds[kind].kind = kind;
        return kinds[kind];
    }

    public int bell(int km, int spot, int loud) {
        if (!in(km, 0, 699) || !in(km % 100, 0, 23) || !in(spot, 0, 99) || !in(loud, 0, 99)) {
            return no(1);
        }
        if (s.bells.size() == 8) {
            return no(4);
        }
        Bell b = made(km / 100);
        b.m = km % 100;
        b.spot = spot;
        b.loud = loud;
        b.n = s.bells.size();
        s.bells.add(b);
        return b.n;
    }

    private static int[] parts(Bell b) {
        return new int[] {b.kind, b.m, b.spot, b.loud, b.offset, b.rank, b.silent};
    }

    public int ofBell(int bell, int what) {
        return bellIs(bell) && in(what, 0, 6) ? parts(s.bells.get(bell))[what] : no(1);
    }

    public int change(int bell, int what, int v) {
        int[] least = {1, 1, 0, 0, -900, 0, 0};
        int[] most = {0, 0, 99, 99, 900, 99, 1};
        if (!bellIs(bell) || !in(what, 0, 6) || !in(v, least[what], most[what])) {
            return no(1);
        }
        Bell b = s.bells.get(bell);
        int was = parts(b)[what];
        b.spot = what == 2 ? v : b.spot;
        b.loud = what == 3 ? v : b.loud;
        b.offset = what == 4 ? v : b.offset;
        b.rank = what == 5 ? v : b.rank;
        b.silent = what == 6 ? v : b.silent;
        return was;
    }

    public int as(int bell, int kind) {
        if (!bellIs(bell) || !in(kind, 0, 6)) {
            return no(1);
        }
        Bell b = s.bells.get(bell);
        return made(kind).getClass().isInstance(b) ? b.loud : no(5);
    }

    public int strikes(int bell, int hour) {
        if (!bellIs(bell) || !in(hour, 0, 23)) {
            return no(1);
        }
        return sounds(s.bells.get(bell), hour) ? 1 : 0;
    }

    public int ear(int spot) {
        if (!in(spot, 0, 99)) {
            return no(1);
        }
        if (s.ears.size() == 10) {
            return no(4);
        }
        s.ears.add(spot);
        return s.ears.size() - 1;
    }

    public int ears(int sheet) {
        if (!in(sheet, 0, 3)) {
            return no(1);
        }
        if (sheets[sheet] == null) {
            return no(2);
        }
        int came = 0;
        while (came < sheets[sheet].length && in(sheets[sheet][came], 0, 99) && s.ears.size() < 10) {
            s.ears.add(sheets[sheet][came]);
            came++;
        }
        return came;
    }

    public int way(int bell, int ear, int what) {
        if (!bellIs(bell) || !in(ear, 0, s.ears.size() - 1) || !in(what, 0, 4)) {
            return no(1);
        }
        Bell b = s.bells.get(bell);
        int to = s.ears.get(ear);
        return new int[] {far(b, to), hid(b, to), walk(b, to), strength(b, to), b.offset + walk(b, to)}[what];
    }

    public int heard(int ear, int hour) {
        if (!in(ear, 0, s.ears.size() - 1) || !in(hour, 0, 23)) {
            return no(1);
        }
        int set = 0;
        for (int i = 0; i < s.bells.size(); i++) {
            set += reaches(s.bells.get(i), s.ears.get(ear), hour) ? 1 << i : 0;
        }
        return set;
    }

    public int feed(long word, int n) {
        if (!in(n, 1, 8)) {
            return no(1);
        }
        if (s.tape.length() + n > 50) {
            return no(4);
        }
        for (long rest = word, i = 0; i < n; i++, rest >>= 8) {
            s.tape += (char) (rest & 255);
        }
        return s.tape.length();
    }

    public int text(int use) {
        if (!in(use, 0, 1)) {
            return no(1);
        }
        int fault = fault(s.tape, NAMES[use]);
        if (fault < 0) {
            s.texts[use] = s.tape;
        }
        s.tape = "";
        return fault < 0 ? 1 : -10 - fault;
    }

    public int law(int use, int a, int b, int c, int d) {
        if (!in(use, 0, 1)) {
            return no(1);
        }
        int v = value(s.texts[use], NAMES[use], new int[] {a, b, c, d, 0});
        return use == 0 ? v : Math.max(0, Math.min(99, v));
    }

    public int clashes(int hour, int what) {
        if (!in(hour, 0, 23) || !in(what, 0, 1)) {
            return no(1);
        }
        List<int[]> found = all(hour);
        if (what == 0) {
            return found.size();
        }
        return found.isEmpty() ? -1 : 10000 * found.get(0)[0] + 100 * found.get(0)[1] + found.get(0)[2];
    }

    public int clash(int bell, int hour) {
        return bellIs(bell) && in(hour, 0, 23) ? with(bell, hour) : no(1);
    }

    public int quiet(int what) {
        if (!in(what, 0, 1)) {
            return no(1);
        }
        int best = -1;
        int fewest = Integer.MAX_VALUE;
        for (int hour = 0; hour < 24; hour++) {
            int n = all(hour).size();
            if (n < fewest) {
                fewest = n;
                best = hour;
            }
        }
        return what == 0 ? best : fewest;
    }

    /** null: they needn't be apart. */
    private Integer gap(Bell one, Bell other, int hour) {
        Integer most = null;
        for (int ear : s.ears) {
            if (reaches(one, ear, hour) && reaches(other, ear, hour)) {
                int gap = s.sets[1] + 1 + walk(one, ear) - walk(other, ear);
                most = most == null || gap > most ? gap : most;
            }
        }
        return most;
    }

    public int apart(int one, int other, int hour) {
        if (!bellIs(one) || !bellIs(other) || one == other || !in(hour, 0, 23)) {
            return no(1);
        }
        Integer gap = gap(s.bells.get(one), s.bells.get(other), hour);
        return gap == null ? no(2) : gap;
    }

    /** OFFSETS by numbers, pushed until all rules hold; null: no slate. */
    private int[] pushed(int hour, int bound, boolean late) {
        int n = s.bells.size();
        Integer[][] gaps = new Integer[n][n];
        int[] at = new int[n];
        for (int i = 0; i < n; i++) {
            Bell one = s.bells.get(i);
            at[i] = one.offset + (late ? bound : -bound);
            for (int j = 0; j < n; j++) {
                Bell other = s.bells.get(j);
                boolean ahead = one.offset < other.offset || one.offset == other.offset && i < j;
                gaps[i][j] = i != j && ahead ? gap(one, other, hour) : null;
            }
        }
        for (int turn = 0; turn <= n; turn++) {
            for (int i = 0; i < n; i++) {
                for (int j = 0; j < n; j++) {
                    if (gaps[i][j] != null && at[j] - at[i] < gaps[i][j]) {
                        if (late) {
                            at[i] = at[j] - gaps[i][j];
                        } else {
                            at[j] = at[i] + gaps[i][j];
                        }
                    }
                }
            }
        }
        for (int i = 0; i < n; i++) {
            if (Math.abs(at[i] - s.bells.get(i).offset) > bound) {
                return null;
            }
        }
        return at;
    }

    public int slate(int bell, int hour, int what) {
        if (!bellIs(bell) || !in(hour, 0, 23) || !in(what, 0, 1)) {
            return no(1);
        }
        if (!sounds(s.bells.get(bell), hour)) {
            return no(3);
        }
        int[] at = pushed(hour, s.sets[2], what == 1);
        return at == null ? no(2) : at[bell];
    }

    public int least(int hour) {
        if (!in(hour, 0, 23)) {
            return no(1);
        }
        for (int low = 0, high = 2001; ; ) {
            int middle = (low + high) / 2;
            if (low == high) {
                return low > 2000 ? no(2) : low;
            }
            if (pushed(hour, middle, false) != null) {
                high = middle;
            } else {
                low = middle + 1;
            }
        }
    }

    public int hang(int hour) {
        if (!in(hour, 0, 23)) {
            return no(1);
        }
        int[] at = pushed(hour, s.sets[2], false);
        if (at == null) {
            return no(2);
        }
        int others = 0;
        for (int i = 0; i < at.length; i++) {
            Bell b = s.bells.get(i);
            int held = Math.max(-900, Math.min(900, at[i]));
            if (sounds(b, hour) && held != b.offset) {
                b.offset = held;
                others++;
            }
        }
        return others;
    }

    public int silence(int hour, int what) {
        if (!in(hour, 0, 23) || !in(what, 0, 1)) {
            return no(1);
        }
        List<int[]> found = all(hour);
        int best = -1;
        int bestRanks = Integer.MAX_VALUE;
        for (int set = 0; set < 1 << s.bells.size(); set++) {
            int ranks = 0;
            for (int i = 0; i < s.bells.size(); i++) {
                ranks += (set & 1 << i) != 0 ? s.bells.get(i).rank : 0;
            }
            boolean still = true;
            for (int[] c : found) {
                still &= (set & (1 << c[0] | 1 << c[1])) != 0;
            }
            if (still && ranks < bestRanks) {
                best = set;
                bestRanks = ranks;
            }
        }
        return what == 0 ? best : bestRanks;
    }

    public int winds(int hour) {
        if (!in(hour, 0, 23)) {
            return no(1);
        }
        int was = s.sets[0];
        int set = 0;
        for (int w = 0; w <= 10; w++) {
            s.sets[0] = w - 5;
            set += all(hour).isEmpty() ? 1 << w : 0;
        }
        s.sets[0] = was;
        return set;
    }

    public int holds(int bell, int hour, int what) {
        if (!bellIs(bell) || !in(hour, 0, 23) || !in(what, 0, 1)) {
            return no(1);
        }
        int bound = s.sets[2];
        int[] bad = new int[2 * bound + 1];
        int was = s.sets[0];
        Bell b = s.bells.get(bell);
        for (int w = -5; w <= 5; w++) {
            s.sets[0] = w;
            List<int[]> seconds = new ArrayList<>();
            for (Bell other : s.bells) {
                for (int ear : s.ears) {
                    if (other != b && reaches(other, ear, hour) && reaches(b, ear, hour)) {
                        seconds.add(new int[] {other.offset + walk(other, ear), b.offset + walk(b, ear)});
                    }
                }
            }
            for (int shift = -bound; shift <= bound; shift++) {
                boolean clash = false;
                for (int[] pair : seconds) {
                    clash |= Math.abs(pair[0] - (pair[1] + shift)) <= s.sets[1];
                }
                bad[shift + bound] += clash ? 1 : 0;
            }
        }
        s.sets[0] = was;
        int best = -bound;
        for (int shift = -bound; shift <= bound; shift++) {
            int fewer = bad[best + bound] - bad[shift + bound];
            if (fewer > 0 || fewer == 0 && Math.abs(shift) < Math.abs(best)) {
                best = shift;
            }
        }
        return what == 0 ? best : bad[best + bound];
    }

    public int chance(int bell, int hour, int part) {
        if (!bellIs(bell) || !in(hour, 0, 23) || !in(part, 0, 1)) {
            return no(1);
        }
        Bell cow = s.bells.get(bell);
        if (!(cow instanceof Cow)) {
            return no(5);
        }
        int was = cow.spot;
        int bad = 0;
        int all = 0;
        for (int spot = 0; spot < 100; spot++) {
            if (Math.abs(spot - was) <= cow.m) {
                cow.spot = spot;
                all++;
                bad += clashing(cow, hour) ? 1 : 0;
            }
        }
        cow.spot = was;
        for (int by = all; by > 1; by--) {
            if (bad % by == 0 && all % by == 0) {
                bad /= by;
                all /= by;
            }
        }
        return part == 0 ? bad : all;
    }

    private int loudest(int spot, int hour) {
        Bell b = new Bell();
        b.spot = spot;
        for (b.loud = 99; b.loud >= 0 && clashing(b, hour); b.loud--) {
            continue;
        }
        return b.loud;
    }

    public int hangs(int spot, int hour) {
        if (!in(spot, 0, 99) || !in(hour, 0, 23)) {
            return no(1);
        }
        int loud = loudest(spot, hour);
        return loud < 0 ? no(2) : loud;
    }

    public int place(int hour, int what) {
        if (!in(hour, 0, 23) || !in(what, 0, 1)) {
            return no(1);
        }
        int best = 95;
        int most = -1;
        for (int spot = 95; spot >= 0; spot -= 5) {
            int loud = loudest(spot, hour);
            if (loud >= most) {
                most = loud;
                best = spot;
            }
        }
        return most < 0 ? no(2) : what == 0 ? best : most;
    }

    public int days(int n) {
        if (!in(n, 1, 60)) {
            return no(1);
        }
        go(s, n);
        int sum = 0;
        for (Bell b : s.bells) {
            sum += b.spot;
        }
        return sum;
    }

    private static void go(State s, int n) {
        for (int day = 0; day < n; day++) {
            for (Bell b : s.bells) {
                if (b instanceof Cow) {
                    s.z = s.z * 1103515245 + 12345;
                    int v = value(s.texts[1], NAMES[1], new int[] {b.spot, (s.z >>> 8) % 7, b.m});
                    b.spot = Math.max(0, Math.min(99, v));
                }
            }
        }
    }

    public int then(int n, int bell) {
        if (!in(n, 0, 60) || !bellIs(bell)) {
            return no(1);
        }
        State ahead = s.copy();
        go(ahead, n);
        return ahead.bells.get(bell).spot;
    }

    public int seed(int v) {
        int was = s.z;
        s.z = v;
        return was;
    }

    public int voice(int bell, int act, int x) {
        if (!bellIs(bell) || !in(act, 0, 3)) {
            return no(1);
        }
        Bell b = s.bells.get(bell).copy();
        b.trace = new ArrayList<>();
        int v = act == 0 ? b.rings(x) : act == 1 ? b.swings(x) : act == 2 ? b.hums(x) : b.tells(x);
        trace = b.trace;
        return v;
    }

    public int trace(int i) {
        return in(i, 0, trace.size() - 1) ? trace.get(i) : no(2);
    }

    public int sheet(int sheet, int bits, int n) {
        if (!in(sheet, 0, 3) || bits != 0 && bits != 8 && bits != 16 && bits != 32) {
            return no(1);
        }
        if (bits != 0 && n < 0) {
            return no(3);
        }
        if (bits != 0 && n > 40) {
            return no(1);
        }
        this.bits[sheet] = bits;
        sheets[sheet] = bits == 0 ? null : new int[n];
        return 1;
    }

    public int put(int sheet, int i, int v) {
        if (!in(sheet, 0, 3)) {
            return no(1);
        }
        if (sheets[sheet] == null) {
            return no(2);
        }
        if (!in(i, 0, sheets[sheet].length - 1)) {
            return no(1);
        }
        sheets[sheet][i] = bits[sheet] == 8 ? (byte) v : bits[sheet] == 16 ? (short) v : v;
        return 1;
    }

    public int move(int sheet, int i, int other, int j, int n) {
        if (!in(sheet, 0, 3) || !in(other, 0, 3)) {
            return no(1);
        }
        if (sheets[sheet] == null || sheets[other] == null) {
            return no(2);
        }
        if (bits[sheet] != bits[other]) {
            return no(5);
        }
        boolean below = n < 0 || i < 0 || j < 0;
        if (below || (long) i + n > sheets[sheet].length || (long) j + n > sheets[other].length) {
            return no(1);
        }
        int[] from = sheets[sheet].clone();
        for (int k = 0; k < n; k++) {
            sheets[other][j + k] = from[i + k];
        }
        return n;
    }

    public int image() {
        kept = s.copy();
        return ++images;
    }

    public int restore() {
        if (kept == null) {
            return no(2);
        }
        s = kept.copy();
        return s.bells.size();
    }

    public int tell(int v) {
        if (s.waiting.size() == 20) {
            return no(4);
        }
        s.waiting.add(v);
        return s.waiting.size();
    }

    public int check(int hour) {
        List<Integer> numbers = s.waiting;
        s.waiting = new ArrayList<>();
        if (!in(hour, 0, 23)) {
            return no(1);
        }
        State was = s;
        s = s.copy();
        s.bells.clear();
        int bad = -1;
        for (int i = 0; bad < 0 && i < Math.max(numbers.size(), was.bells.size()); i++) {
            if (i >= numbers.size() || i >= was.bells.size() || !in(numbers.get(i), -900, 900)) {
                bad = i;
            } else {
                Bell b = was.bells.get(i).copy();
                b.offset = numbers.get(i);
                s.bells.add(b);
                bad = clashing(b, hour) ? i : -1;
            }
        }
        s = was;
        return 1 + bad;
    }

    public int count(int what) {
        if (!in(what, 0, 7)) {
            return no(1);
        }
        int silent = 0;
        for (Bell b : s.bells) {
            silent += b.silent;
        }
        return new int[] {s.bells.size(), s.ears.size(), silent, s.sets[0], s.tape.length(), s.waiting.size(),
            trace.size(), s.z}[what];
    }

    public int told(int k) {
        return in(k, 1, 5) ? told[k] : no(1);
    }
}
