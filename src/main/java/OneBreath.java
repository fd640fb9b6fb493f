/** No two bells in one breath: bells, ears and clashes in a valley along a line. */
public final class OneBreath {

    private static final int LOW = -1000000000;
    private static final int BEYOND = LOW - 1;
    private static final int NONE = LOW - 2;
    private static final int STATE = LOW - 3;
    private static final int FULL = LOW - 4;
    private static final int KIND = LOW - 5;
    private static final int MOST_ERRORS = 5;

    private static final int SPOTS = 100;
    private static final int HOURS = 24;
    private static final int HIGHEST_HILL = 9;
    private static final int LOUDEST = 99;
    private static final int MOST_BELLS = 8;
    private static final int MOST_EARS = 10;
    private static final int STRONGEST_WIND = 5;
    private static final int MOST_BREATH = 30;
    private static final int MOST_BOUND = 300;
    private static final int MOST_LEAST_BOUND = 2000;
    private static final int MOST_OFFSET = 900;
    private static final int MOST_DAYS = 60;
    private static final int MOST_WAITING = 20;
    private static final int PLACE_STEP = 5;

    private static final int KINDS = 7;
    private static final int COW = 3;
    /** The KIND right above each KIND; -1 above BELL. */
    private static final int[] ABOVE = {-1, 0, 0, 0, 1, 1, 3};

    private static final int MOST_BYTES = 50;
    private static final int MOST_OPEN = 5;
    private static final int MOST_NAMES = 5;
    private static final int CARRIES = 0;
    private static final int GRAZES = 1;
    private static final String CARRIES_NAMES = "ldhwk";
    private static final String GRAZES_NAMES = "srm";
    private static final String CARRIES_AT_FIRST = "l-d-5*h+w";
    private static final String GRAZES_AT_FIRST = "s+r-3";

    private final Valley now = new Valley();
    private final Valley kept = new Valley();
    private final Reader reader = new Reader();
    private final Hearing hearing = new Hearing(now);
    private final Slate slates = new Slate(now, hearing);
    private final Trials trials = new Trials(now, hearing);
    private final Voices voices = new Voices();
    private final Sheets sheets = new Sheets();
    private final int[] errors = new int[MOST_ERRORS + 1];
    private int images;

    public OneBreath() {
        beginText(CARRIES, CARRIES_AT_FIRST);
        beginText(GRAZES, GRAZES_AT_FIRST);
    }

    // ---- the valley, bells, ears

    public int hill(int spot, int v) {
        if (!isSpot(spot) || v < 0 || v > HIGHEST_HILL) {
            return error(BEYOND);
        }
        return now.raise(spot, v);
    }

    public int set(int what, int v) {
        if (!canBeSet(what, v)) {
            return error(BEYOND);
        }
        int was = what == 0 ? now.wind : what == 1 ? now.breath : now.bound;
        if (what == 0) {
            now.wind = v;
        } else if (what == 1) {
            now.breath = v;
        } else {
            now.bound = v;
        }
        return was;
    }

    public int bell(int km, int spot, int loud) {
        if (km < 0 || km / 100 >= KINDS || km % 100 >= HOURS) {
            return error(BEYOND);
        }
        if (!isSpot(spot) || loud < 0 || loud > LOUDEST) {
            return error(BEYOND);
        }
        if (now.bellCount >= MOST_BELLS) {
            return error(FULL);
        }
        now.bells[now.bellCount].begin(km / 100, km % 100, spot, loud);
        now.bellCount++;
        return now.bellCount - 1;
    }

    public int ofBell(int bell, int what) {
        if (!isBell(bell) || what < 0 || what >= Bell.PARTS) {
            return error(BEYOND);
        }
        return now.bells[bell].part(what);
    }

    public int change(int bell, int what, int v) {
        if (!isBell(bell) || !Bell.mayBecome(what, v)) {
            return error(BEYOND);
        }
        int was = now.bells[bell].part(what);
        now.bells[bell].changePart(what, v);
        return was;
    }

    public int as(int bell, int kind) {
        if (!isBell(bell) || kind < 0 || kind >= KINDS) {
            return error(BEYOND);
        }
        if (!now.bells[bell].isOf(kind)) {
            return error(KIND);
        }
        return now.bells[bell].loud;
    }

    public int strikes(int bell, int hour) {
        if (!isBell(bell) || !isHour(hour)) {
            return error(BEYOND);
        }
        return now.bells[bell].ringsAt(hour) ? 1 : 0;
    }

    public int ear(int spot) {
        if (!isSpot(spot)) {
            return error(BEYOND);
        }
        if (now.earCount >= MOST_EARS) {
            return error(FULL);
        }
        now.addEar(spot);
        return now.earCount - 1;
    }

    public int ears(int sheet) {
        if (!Sheets.canBe(sheet)) {
            return error(BEYOND);
        }
        if (sheets.isMissing(sheet)) {
            return error(NONE);
        }
        int came = 0;
        for (int i = 0; i < sheets.sizeOf(sheet); i++) {
            int spot = sheets.number(sheet, i);
            if (!isSpot(spot) || now.earCount >= MOST_EARS) {
                break;
            }
            now.addEar(spot);
            came++;
        }
        return came;
    }

    public int way(int bell, int ear, int what) {
        if (!isBell(bell) || !isEar(ear)) {
            return error(BEYOND);
        }
        Bell from = now.bells[bell];
        int to = now.earSpots[ear];
        switch (what) {
            case 0:
                return Math.abs(from.spot - to);
            case 1:
                return now.hidBetween(from.spot, to);
            case 2:
                return wayBetween(from.spot, to, now.wind);
            case 3:
                return now.strength(from.kind, from.loud, from.spot, to, now.wind);
            case 4:
                return from.offset + wayBetween(from.spot, to, now.wind);
            default:
                return error(BEYOND);
        }
    }

    public int heard(int ear, int hour) {
        if (!isEar(ear) || !isHour(hour)) {
            return error(BEYOND);
        }
        hearing.listen(hour, now.wind);
        return hearing.heardAt(ear);
    }

    // ---- texts

    public int feed(long word, int n) {
        if (n < 1 || n > 8) {
            return error(BEYOND);
        }
        if (now.tapeSize + n > MOST_BYTES) {
            return error(FULL);
        }
        for (int i = 0; i < n; i++) {
            now.addByte((int) (word >>> (8 * i)) & 255);
        }
        return now.tapeSize;
    }

    public int text(int use) {
        if (!isUse(use)) {
            return error(BEYOND);
        }
        int fault = readTape(use);
        return fault < 0 ? 1 : -10 - fault;
    }

    public int law(int use, int a, int b, int c, int d) {
        if (!isUse(use)) {
            return error(BEYOND);
        }
        return use == CARRIES ? now.carries.value(a, b, c, d, 0) : now.grazedSpot(a, b, c);
    }

    // ---- clashes

    public int clashes(int hour, int what) {
        if (!isHour(hour) || !isEither(what)) {
            return error(BEYOND);
        }
        hearing.listen(hour, now.wind);
        return what == 0 ? hearing.clashCount() : hearing.firstClash();
    }

    public int clash(int bell, int hour) {
        if (!isBell(bell) || !isHour(hour)) {
            return error(BEYOND);
        }
        hearing.listen(hour, now.wind);
        return hearing.clashCountOf(bell);
    }

    public int quiet(int what) {
        if (!isEither(what)) {
            return error(BEYOND);
        }
        int hour = hearing.quietestHour();
        return what == 0 ? hour : hearing.clashCountAt(hour);
    }

    // ---- slates

    public int apart(int one, int other, int hour) {
        if (!isBell(one) || !isBell(other) || one == other || !isHour(hour)) {
            return error(BEYOND);
        }
        hearing.listen(hour, now.wind);
        int gap = hearing.gap(one, other);
        return gap == Hearing.NO_GAP ? error(NONE) : gap;
    }

    public int slate(int bell, int hour, int what) {
        if (!isBell(bell) || !isHour(hour) || !isEither(what)) {
            return error(BEYOND);
        }
        if (!now.bells[bell].ringsAt(hour)) {
            return error(STATE);
        }
        slates.lineUp(hour);
        slates.goEarly(now.bound);
        if (slates.latestBehind() > now.bound) {
            return error(NONE);
        }
        if (what == 1) {
            slates.goLate(now.bound);
        }
        return slates.offsetOf(bell);
    }

    public int least(int hour) {
        if (!isHour(hour)) {
            return error(BEYOND);
        }
        slates.lineUp(hour);
        slates.goEarly(0);
        // A BOUND of b starts the slate b earlier and lets it end b later: half of what is lacking is enough.
        int bound = (slates.latestBehind() + 1) / 2;
        return bound > MOST_LEAST_BOUND ? error(NONE) : bound;
    }

    public int hang(int hour) {
        if (!isHour(hour)) {
            return error(BEYOND);
        }
        slates.lineUp(hour);
        slates.goEarly(now.bound);
        if (slates.latestBehind() > now.bound) {
            return error(NONE);
        }
        return slates.takeOver();
    }

    // ---- silence, winds, cows, a new one

    public int silence(int hour, int what) {
        if (!isHour(hour) || !isEither(what)) {
            return error(BEYOND);
        }
        hearing.listen(hour, now.wind);
        int set = trials.cheapestSilence();
        return what == 0 ? set : now.ranksOf(set);
    }

    public int winds(int hour) {
        if (!isHour(hour)) {
            return error(BEYOND);
        }
        int calm = 0;
        for (int wind = -STRONGEST_WIND; wind <= STRONGEST_WIND; wind++) {
            hearing.listen(hour, wind);
            if (hearing.firstClash() < 0) {
                calm |= 1 << (wind + STRONGEST_WIND);
            }
        }
        return calm;
    }

    public int holds(int bell, int hour, int what) {
        if (!isBell(bell) || !isHour(hour) || !isEither(what)) {
            return error(BEYOND);
        }
        trials.tryShifts(bell, hour);
        int shift = trials.bestShift();
        return what == 0 ? shift : trials.windsAgainst(shift);
    }

    public int chance(int bell, int hour, int part) {
        if (!isBell(bell) || !isHour(hour) || !isEither(part)) {
            return error(BEYOND);
        }
        Bell cow = now.bells[bell];
        if (!cow.isOf(COW)) {
            return error(KIND);
        }
        int first = Math.max(0, cow.spot - cow.m);
        int last = Math.min(SPOTS - 1, cow.spot + cow.m);
        hearing.listen(hour, now.wind);
        int bad = cow.ringsAt(hour) ? trials.clashingSpots(bell, first, last) : 0;
        int all = last - first + 1;
        int common = commonDivisor(all, bad);
        if (common == 0) {
            return part;
        }
        return part == 0 ? bad / common : all / common;
    }

    public int hangs(int spot, int hour) {
        if (!isSpot(spot) || !isHour(hour)) {
            return error(BEYOND);
        }
        hearing.listen(hour, now.wind);
        int loud = trials.loudestAt(spot);
        return loud < 0 ? error(NONE) : loud;
    }

    public int place(int hour, int what) {
        if (!isHour(hour) || !isEither(what)) {
            return error(BEYOND);
        }
        hearing.listen(hour, now.wind);
        int best = 0;
        int bestLoud = -1;
        for (int spot = 0; spot < SPOTS && bestLoud < LOUDEST; spot += PLACE_STEP) {
            int loud = trials.loudestAt(spot);
            if (loud > bestLoud) {
                best = spot;
                bestLoud = loud;
            }
        }
        if (bestLoud < 0) {
            return error(NONE);
        }
        return what == 0 ? best : bestLoud;
    }

    // ---- days

    public int days(int n) {
        if (n < 1 || n > MOST_DAYS) {
            return error(BEYOND);
        }
        now.goDays(n);
        return now.spotsTogether();
    }

    public int then(int n, int bell) {
        if (n < 0 || n > MOST_DAYS || !isBell(bell)) {
            return error(BEYOND);
        }
        return now.spotAhead(n, bell);
    }

    public int seed(int v) {
        int was = now.z;
        now.z = v;
        return was;
    }

    // ---- voices, sheets, images, what is told

    public int voice(int bell, int act, int x) {
        if (!isBell(bell) || act < 0 || act >= Voices.ACTS) {
            return error(BEYOND);
        }
        return voices.speak(now.bells[bell], bell, act, x);
    }

    public int trace(int i) {
        if (i < 0 || i >= voices.begun) {
            return error(NONE);
        }
        return voices.bodies[i];
    }

    public int sheet(int sheet, int bits, int n) {
        if (!Sheets.canBe(sheet) || !Sheets.canHave(bits)) {
            return error(BEYOND);
        }
        if (bits == 0) {
            sheets.begin(sheet, 0, 0);
            return 1;
        }
        if (n < 0) {
            return error(STATE);
        }
        if (n > Sheets.LONGEST) {
            return error(BEYOND);
        }
        sheets.begin(sheet, bits, n);
        return 1;
    }

    public int put(int sheet, int i, int v) {
        if (!Sheets.canBe(sheet)) {
            return error(BEYOND);
        }
        if (sheets.isMissing(sheet)) {
            return error(NONE);
        }
        if (!sheets.stand(sheet, i, 1)) {
            return error(BEYOND);
        }
        sheets.write(sheet, i, v);
        return 1;
    }

    public int move(int sheet, int i, int other, int j, int n) {
        if (!Sheets.canBe(sheet) || !Sheets.canBe(other)) {
            return error(BEYOND);
        }
        if (sheets.isMissing(sheet) || sheets.isMissing(other)) {
            return error(NONE);
        }
        if (!sheets.areAlike(sheet, other)) {
            return error(KIND);
        }
        if (!sheets.stand(sheet, i, n) || !sheets.stand(other, j, n)) {
            return error(BEYOND);
        }
        sheets.carry(sheet, i, other, j, n);
        return n;
    }

    public int image() {
        kept.become(now);
        images++;
        return images;
    }

    public int restore() {
        if (images == 0) {
            return error(NONE);
        }
        now.become(kept);
        return now.bellCount;
    }

    public int tell(int v) {
        if (now.waitCount >= MOST_WAITING) {
            return error(FULL);
        }
        now.waiting[now.waitCount] = v;
        now.waitCount++;
        return now.waitCount;
    }

    public int check(int hour) {
        int numbers = now.waitCount;
        now.waitCount = 0;
        if (!isHour(hour)) {
            return error(BEYOND);
        }
        hearing.listen(hour, now.wind);
        int most = Math.max(numbers, now.bellCount);
        for (int i = 0; i < most; i++) {
            if (i >= numbers || i >= now.bellCount || clashesAsTold(i)) {
                return 1 + i;
            }
        }
        return 0;
    }

    public int count(int what) {
        switch (what) {
            case 0:
                return now.bellCount;
            case 1:
                return now.earCount;
            case 2:
                return now.silentCount();
            case 3:
                return now.wind;
            case 4:
                return now.tapeSize;
            case 5:
                return now.waitCount;
            case 6:
                return voices.begun;
            case 7:
                return now.z;
            default:
                return error(BEYOND);
        }
    }

    public int told(int k) {
        if (k < 1 || k > MOST_ERRORS) {
            return error(BEYOND);
        }
        return errors[k];
    }

    // ---- what the acts share

    private int error(int answer) {
        int k = LOW - answer;
        if (k >= 1 && k <= MOST_ERRORS) {
            errors[k]++;
        }
        return answer;
    }

    private boolean isBell(int bell) {
        return bell >= 0 && bell < now.bellCount && bell < MOST_BELLS;
    }

    private boolean isEar(int ear) {
        return ear >= 0 && ear < now.earCount && ear < MOST_EARS;
    }

    private static boolean isSpot(int spot) {
        return spot >= 0 && spot < SPOTS;
    }

    private static boolean isHour(int hour) {
        return hour >= 0 && hour < HOURS;
    }

    private static boolean isUse(int use) {
        return use == CARRIES || use == GRAZES;
    }

    private static boolean isEither(int what) {
        return what == 0 || what == 1;
    }

    private static boolean canBeSet(int what, int v) {
        switch (what) {
            case 0:
                return v >= -STRONGEST_WIND && v <= STRONGEST_WIND;
            case 1:
                return v >= 0 && v <= MOST_BREATH;
            case 2:
                return v >= 0 && v <= MOST_BOUND;
            default:
                return false;
        }
    }

    private static int heldWithin(int v, int lowest, int highest) {
        return Math.max(lowest, Math.min(highest, v));
    }

    private static int wayBetween(int from, int to, int wind) {
        int far = Math.abs(from - to);
        int against = wind * far / 5;
        return Math.max(0, 3 * far + (to > from ? -against : against));
    }

    private static int commonDivisor(int one, int other) {
        int a = one;
        int b = other;
        // Euclid's way takes far fewer turns than SPOTS for numbers of SPOTS.
        for (int turn = 0; turn < SPOTS && b != 0; turn++) {
            int rest = a % b;
            a = b;
            b = rest;
        }
        return a;
    }

    /** Whether the i-th number of check() is no OFFSET, or clashes with one ahead of it. */
    private boolean clashesAsTold(int i) {
        if (i < 0 || i >= MOST_BELLS) {
            return true;
        }
        int offset = now.waiting[i];
        if (offset < -MOST_OFFSET || offset > MOST_OFFSET) {
            return true;
        }
        for (int ahead = 0; ahead < i; ahead++) {
            if (hearing.earsOfClash(ahead, now.waiting[ahead], i, offset) != 0) {
                return true;
            }
        }
        return false;
    }

    /** Reads THE TAPE, which is empty then, for a USE: -1, or the FAULT. */
    private int readTape(int use) {
        String names = use == CARRIES ? CARRIES_NAMES : GRAZES_NAMES;
        int fault = reader.read(now.tape, now.tapeSize, names);
        now.tapeSize = 0;
        if (fault < 0) {
            Law meant = use == CARRIES ? now.carries : now.grazes;
            meant.become(reader.draft);
        }
        return fault;
    }

    private void beginText(int use, String words) {
        for (int i = 0; i < words.length(); i++) {
            now.addByte(words.charAt(i));
        }
        readTape(use);
    }

    /** One BELL. */
    private static final class Bell {
        static final int PARTS = 7;
        private static final int FIRST_CHANGED = 2;
        private static final int[] LOWEST = {0, 0, 0, 0, -900, 0, 0};
        private static final int[] HIGHEST = {6, 23, 99, 99, 900, 99, 1};

        int kind;
        int m;
        int spot;
        int loud;
        int offset;
        int rank;
        int silent;

        static boolean mayBecome(int what, int v) {
            return what >= FIRST_CHANGED && what < PARTS && v >= LOWEST[what] && v <= HIGHEST[what];
        }

        void begin(int newKind, int newM, int newSpot, int newLoud) {
            kind = newKind;
            m = newM;
            spot = newSpot;
            loud = newLoud;
            offset = 0;
            rank = 1;
            silent = 0;
        }

        void become(Bell other) {
            begin(other.kind, other.m, other.spot, other.loud);
            offset = other.offset;
            rank = other.rank;
            silent = other.silent;
        }

        int part(int what) {
            switch (what) {
                case 0:
                    return kind;
                case 1:
                    return m;
                case 2:
                    return spot;
                case 3:
                    return loud;
                case 4:
                    return offset;
                case 5:
                    return rank;
                default:
                    return silent;
            }
        }

        void changePart(int what, int v) {
            switch (what) {
                case 2:
                    spot = v;
                    break;
                case 3:
                    loud = v;
                    break;
                case 4:
                    offset = v;
                    break;
                case 5:
                    rank = v;
                    break;
                default:
                    silent = v;
                    break;
            }
        }

        /** Whether it is of a KIND, or of one under it. */
        boolean isOf(int wanted) {
            int step = kind;
            for (int turn = 0; turn < KINDS && step >= 0 && step < KINDS; turn++) {
                if (step == wanted) {
                    return true;
                }
                step = ABOVE[step];
            }
            return false;
        }

        boolean ringsAt(int hour) {
            if (silent != 0) {
                return false;
            }
            boolean church = hour >= 6 && hour <= 22;
            switch (kind) {
                case 1:
                    return church;
                case 2:
                    return hour == 8 || hour == 12 || hour == 16;
                case 4:
                    return church || hour == 0;
                case 5:
                    return church && hour == m;
                case 6:
                    return hour != m;
                default:
                    return true;
            }
        }
    }

    /** All that an IMAGE keeps. */
    private static final class Valley {
        /** At i: HILLS of all SPOTS below i together, so that HID needs no loop. */
        private final int[] hillsBelow = new int[SPOTS + 1];
        final Bell[] bells = new Bell[MOST_BELLS];
        int bellCount;
        final int[] earSpots = new int[MOST_EARS];
        int earCount;
        int wind;
        int breath = 3;
        int bound = 60;
        final int[] tape = new int[MOST_BYTES];
        int tapeSize;
        final Law carries = new Law();
        final Law grazes = new Law();
        int z = 1;
        final int[] waiting = new int[MOST_WAITING];
        int waitCount;
        private final int[] spotsBefore = new int[MOST_BELLS];

        Valley() {
            for (int i = 0; i < MOST_BELLS; i++) {
                bells[i] = new Bell();
            }
        }

        void become(Valley other) {
            System.arraycopy(other.hillsBelow, 0, hillsBelow, 0, SPOTS + 1);
            for (int i = 0; i < MOST_BELLS; i++) {
                bells[i].become(other.bells[i]);
            }
            bellCount = other.bellCount;
            System.arraycopy(other.earSpots, 0, earSpots, 0, MOST_EARS);
            earCount = other.earCount;
            wind = other.wind;
            breath = other.breath;
            bound = other.bound;
            System.arraycopy(other.tape, 0, tape, 0, MOST_BYTES);
            tapeSize = other.tapeSize;
            carries.become(other.carries);
            grazes.become(other.grazes);
            z = other.z;
            System.arraycopy(other.waiting, 0, waiting, 0, MOST_WAITING);
            waitCount = other.waitCount;
        }

        /** Makes a HILL so high: how high it was. */
        int raise(int spot, int height) {
            int was = hillsBelow[spot + 1] - hillsBelow[spot];
            for (int i = spot + 1; i <= SPOTS; i++) {
                hillsBelow[i] += height - was;
            }
            return was;
        }

        int hidBetween(int from, int to) {
            int first = Math.min(from, to) + 1;
            int end = Math.max(from, to);
            return first < end ? hillsBelow[end] - hillsBelow[first] : 0;
        }

        int strength(int kind, int loud, int from, int to, int ofWind) {
            int windThere = to > from ? ofWind : to < from ? -ofWind : 0;
            return carries.value(loud, Math.abs(from - to), hidBetween(from, to), windThere, kind);
        }

        void addEar(int spot) {
            if (earCount < MOST_EARS) {
                earSpots[earCount] = spot;
                earCount++;
            }
        }

        void addByte(int value) {
            if (tapeSize < MOST_BYTES) {
                tape[tapeSize] = value;
                tapeSize++;
            }
        }

        int silentCount() {
            int silent = 0;
            for (int i = 0; i < bellCount; i++) {
                silent += bells[i].silent;
            }
            return silent;
        }

        int ranksOf(int set) {
            int ranks = 0;
            for (int i = 0; i < bellCount; i++) {
                if ((set >> i & 1) != 0) {
                    ranks += bells[i].rank;
                }
            }
            return ranks;
        }

        int spotsTogether() {
            int spots = 0;
            for (int i = 0; i < bellCount; i++) {
                spots += bells[i].spot;
            }
            return spots;
        }

        int grazedSpot(int spot, int rest, int m) {
            return heldWithin(grazes.value(spot, rest, m, 0, 0), 0, SPOTS - 1);
        }

        void goDays(int n) {
            for (int day = 0; day < n; day++) {
                for (int i = 0; i < bellCount; i++) {
                    if (bells[i].isOf(COW)) {
                        bells[i].spot = grazedSpot(bells[i].spot, draw() % 7, bells[i].m);
                    }
                }
            }
        }

        int spotAhead(int n, int bell) {
            int zBefore = z;
            for (int i = 0; i < bellCount; i++) {
                spotsBefore[i] = bells[i].spot;
            }
            goDays(n);
            int spot = bells[bell].spot;
            z = zBefore;
            for (int i = 0; i < bellCount; i++) {
                bells[i].spot = spotsBefore[i];
            }
            return spot;
        }

        private int draw() {
            z = z * 1103515245 + 12345;
            return z >>> 8;
        }
    }

    /** A TEXT as steps: operands ahead of their signs, worked out on a stack. */
    private static final class Law {
        private final int[] steps = new int[MOST_BYTES];
        private int size;
        private final int[] names = new int[MOST_NAMES];
        private final int[] stack = new int[MOST_BYTES];

        void clear() {
            size = 0;
        }

        void become(Law other) {
            System.arraycopy(other.steps, 0, steps, 0, MOST_BYTES);
            size = other.size;
        }

        void addNumber(int number) {
            add(number);
        }

        void addName(int name) {
            add(-1 - name);
        }

        /** A sign's step is below those of all names, as each sign's byte is above MOST_NAMES. */
        void addSign(int sign) {
            add(-sign);
        }

        int value(int a, int b, int c, int d, int e) {
            names[0] = a;
            names[1] = b;
            names[2] = c;
            names[3] = d;
            names[4] = e;
            int top = 0;
            for (int i = 0; i < size; i++) {
                int step = steps[i];
                if (step >= -MOST_NAMES) {
                    if (top >= MOST_BYTES) {
                        return 0;
                    }
                    stack[top] = step >= 0 ? step : names[-1 - step];
                    top++;
                } else if (step == -'!') {
                    if (top < 1) {
                        return 0;
                    }
                    stack[top - 1] = stack[top - 1] == 0 ? 1 : 0;
                } else {
                    if (top < 2) {
                        return 0;
                    }
                    top--;
                    stack[top - 1] = join(-step, stack[top - 1], stack[top]);
                }
            }
            return top == 1 ? stack[0] : 0;
        }

        private void add(int step) {
            if (size < MOST_BYTES) {
                steps[size] = step;
                size++;
            }
        }

        private static int join(int sign, int left, int right) {
            switch (sign) {
                case '|':
                    return left != 0 || right != 0 ? 1 : 0;
                case '&':
                    return left != 0 && right != 0 ? 1 : 0;
                case '<':
                    return left < right ? 1 : 0;
                case '=':
                    return left == right ? 1 : 0;
                case '>':
                    return left > right ? 1 : 0;
                case '+':
                    return left + right;
                case '-':
                    return left - right;
                case '*':
                    return left * right;
                case '/':
                    return right == 0 ? 0 : left / right;
                default:
                    return right == 0 ? 0 : left % right;
            }
        }
    }

    /** Reads TEXTS: goes on by a byte only if a TEXT can, so that it stops at the FAULT. */
    private static final class Reader {
        private static final int COMPARED = 2;
        private static final int LEVELS = 5;
        private static final int ENDED = -1;
        private static final int MOST_DIGITS = 4;

        final Law draft = new Law();
        private final int[] bytes = new int[MOST_BYTES];
        private int size;
        private int at;
        private String names = CARRIES_NAMES;

        /** -1, with the TEXT in draft; or the FAULT. */
        int read(int[] tape, int tapeSize, String newNames) {
            size = heldWithin(tapeSize, 0, Math.min(MOST_BYTES, tape.length));
            System.arraycopy(tape, 0, bytes, 0, size);
            at = 0;
            names = newNames;
            draft.clear();
            return readLevel(0, 0) && at == size ? -1 : at;
        }

        /** T, A, B, S, P are levels 0 to 4, by how tightly their signs bind; Q is behind them. */
        private boolean readLevel(int level, int open) {
            if (level >= LEVELS) {
                return readUnit(open);
            }
            if (!readLevel(level + 1, open)) {
                return false;
            }
            int mostSigns = level == COMPARED ? 1 : MOST_BYTES;
            for (int turn = 0; turn < mostSigns; turn++) {
                int sign = next();
                if (levelOf(sign) != level) {
                    return true;
                }
                at++;
                if (!readLevel(level + 1, open)) {
                    return false;
                }
                draft.addSign(sign);
            }
            return true;
        }

        private boolean readUnit(int open) {
            int sign = next();
            if (isDigit(sign)) {
                readNumber();
                return true;
            }
            if (sign == '!' || sign == '(') {
                if (open >= MOST_OPEN) {
                    return false;
                }
                at++;
                return sign == '!' ? readNot(open + 1) : readBraced(open + 1);
            }
            int name = sign == ENDED ? -1 : names.indexOf((char) sign);
            if (name < 0) {
                return false;
            }
            draft.addName(name);
            at++;
            return true;
        }

        private boolean readNot(int open) {
            if (!readUnit(open)) {
                return false;
            }
            draft.addSign('!');
            return true;
        }

        private boolean readBraced(int open) {
            if (!readLevel(0, open) || next() != ')') {
                return false;
            }
            at++;
            return true;
        }

        private void readNumber() {
            int number = 0;
            for (int digit = 0; digit < MOST_DIGITS && isDigit(next()); digit++) {
                number = number * 10 + next() - '0';
                at++;
            }
            draft.addNumber(number);
        }

        private int next() {
            return at >= 0 && at < size ? bytes[at] : ENDED;
        }

        private static boolean isDigit(int sign) {
            return sign >= '0' && sign <= '9';
        }

        private static int levelOf(int sign) {
            switch (sign) {
                case '|':
                    return 0;
                case '&':
                    return 1;
                case '<':
                case '=':
                case '>':
                    return COMPARED;
                case '+':
                case '-':
                    return 3;
                case '*':
                case '/':
                case '%':
                    return 4;
                default:
                    return -1;
            }
        }
    }

    /** What reaches which EAR, and when, at an HOUR in a WIND. */
    private static final class Hearing {
        /** Far below each gap that there can be. */
        static final int NO_GAP = -1000000;

        private final Valley valley;
        private final int[][] ways = new int[MOST_BELLS][MOST_EARS];
        private final int[] heardBits = new int[MOST_EARS];
        private final int[] hourly = new int[HOURS];

        Hearing(Valley newValley) {
            valley = newValley;
        }

        void listen(int hour, int wind) {
            int ringing = 0;
            for (int bell = 0; bell < valley.bellCount; bell++) {
                if (valley.bells[bell].ringsAt(hour)) {
                    ringing |= 1 << bell;
                }
            }
            listenTo(ringing, wind);
        }

        /** BELLS as bits. */
        int heardAt(int ear) {
            return heardBits[ear];
        }

        /** EARS, as bits, at which two BELLS clash if these are their OFFSETS. */
        int earsOfClash(int one, int oneOffset, int other, int otherOffset) {
            int both = 1 << one | 1 << other;
            int found = 0;
            for (int ear = 0; ear < valley.earCount; ear++) {
                if ((heardBits[ear] & both) == both) {
                    int between = oneOffset + ways[one][ear] - otherOffset - ways[other][ear];
                    if (Math.abs(between) <= valley.breath) {
                        found |= 1 << ear;
                    }
                }
            }
            return found;
        }

        int earsOfClash(int one, int other) {
            return earsOfClash(one, valley.bells[one].offset, other, valley.bells[other].offset);
        }

        int clashCount() {
            int clashes = 0;
            for (int bell = 0; bell < valley.bellCount; bell++) {
                clashes += clashCountOf(bell);
            }
            return clashes / 2;
        }

        int clashCountOf(int bell) {
            int clashes = 0;
            for (int other = 0; other < valley.bellCount; other++) {
                if (other != bell) {
                    clashes += Integer.bitCount(earsOfClash(bell, other));
                }
            }
            return clashes;
        }

        int firstClash() {
            for (int one = 0; one < valley.bellCount; one++) {
                for (int other = one + 1; other < valley.bellCount; other++) {
                    int found = earsOfClash(one, other);
                    if (found != 0) {
                        int ear = Integer.bitCount((found & -found) - 1);
                        return 10000 * one + 100 * other + ear;
                    }
                }
            }
            return -1;
        }

        /** Fills what clashCountAt() tells. */
        int quietestHour() {
            // Who is heard where is alike at all HOURS, but for who strikes: it is worked out once.
            listenTo((1 << valley.bellCount) - 1, valley.wind);
            for (int hour = 0; hour < HOURS; hour++) {
                hourly[hour] = 0;
            }
            for (int one = 0; one < valley.bellCount; one++) {
                for (int other = one + 1; other < valley.bellCount; other++) {
                    addHourly(one, other, Integer.bitCount(earsOfClash(one, other)));
                }
            }
            int best = 0;
            for (int hour = 1; hour < HOURS; hour++) {
                if (hourly[hour] < hourly[best]) {
                    best = hour;
                }
            }
            return best;
        }

        int clashCountAt(int hour) {
            return hourly[hour];
        }

        /** By how much OFFSET of the other BELL must be above that of the one ahead; NO_GAP if it needn't. */
        int gap(int one, int other) {
            int both = 1 << one | 1 << other;
            int most = NO_GAP;
            for (int ear = 0; ear < valley.earCount; ear++) {
                if ((heardBits[ear] & both) == both) {
                    most = Math.max(most, valley.breath + 1 + ways[one][ear] - ways[other][ear]);
                }
            }
            return most;
        }

        /** Whether a BELL other than this one is heard at an EAR within BREATH of a SECOND. */
        boolean isNear(int ear, int second, int butBell) {
            for (int bell = 0; bell < valley.bellCount; bell++) {
                if (bell != butBell && (heardBits[ear] >> bell & 1) != 0) {
                    if (Math.abs(secondOf(bell, ear) - second) <= valley.breath) {
                        return true;
                    }
                }
            }
            return false;
        }

        int secondOf(int bell, int ear) {
            return valley.bells[bell].offset + ways[bell][ear];
        }

        private void listenTo(int ringing, int wind) {
            for (int ear = 0; ear < valley.earCount; ear++) {
                int to = valley.earSpots[ear];
                heardBits[ear] = 0;
                for (int i = 0; i < valley.bellCount; i++) {
                    Bell bell = valley.bells[i];
                    if ((ringing >> i & 1) != 0
                            && valley.strength(bell.kind, bell.loud, bell.spot, to, wind) > 0) {
                        heardBits[ear] |= 1 << i;
                        ways[i][ear] = wayBetween(bell.spot, to, wind);
                    }
                }
            }
        }

        private void addHourly(int one, int other, int clashes) {
            for (int hour = 0; hour < HOURS && clashes > 0; hour++) {
                if (valley.bells[one].ringsAt(hour) && valley.bells[other].ringsAt(hour)) {
                    hourly[hour] += clashes;
                }
            }
        }
    }

    /** THE SLATE at an HOUR. */
    private static final class Slate {
        private final Valley valley;
        private final Hearing hearing;
        private final int[] order = new int[MOST_BELLS];
        private int size;
        private final int[] offsets = new int[MOST_BELLS];

        Slate(Valley newValley, Hearing newHearing) {
            valley = newValley;
            hearing = newHearing;
        }

        int offsetOf(int bell) {
            return offsets[bell];
        }

        /** Lists the BELLS that strike, in their ORDER. */
        void lineUp(int hour) {
            hearing.listen(hour, valley.wind);
            size = 0;
            for (int bell = 0; bell < valley.bellCount; bell++) {
                if (valley.bells[bell].ringsAt(hour)) {
                    insert(bell);
                }
            }
        }

        /** As small as can be; what is too great for a BOUND shows in latestBehind(). */
        void goEarly(int bound) {
            for (int k = 0; k < size; k++) {
                int bell = order[k];
                int offset = valley.bells[bell].offset - bound;
                for (int j = 0; j < k; j++) {
                    int gap = hearing.gap(order[j], bell);
                    if (gap != Hearing.NO_GAP) {
                        offset = Math.max(offset, offsets[order[j]] + gap);
                    }
                }
                offsets[bell] = offset;
            }
        }

        /** As great as can be, if there is a slate. */
        void goLate(int bound) {
            for (int k = size - 1; k >= 0; k--) {
                int bell = order[k];
                int offset = valley.bells[bell].offset + bound;
                for (int j = k + 1; j < size; j++) {
                    int gap = hearing.gap(bell, order[j]);
                    if (gap != Hearing.NO_GAP) {
                        offset = Math.min(offset, offsets[order[j]] - gap);
                    }
                }
                offsets[bell] = offset;
            }
        }

        /** The most by which an OFFSET of the slate is above the one that its BELL has; 0 at least. */
        int latestBehind() {
            int most = 0;
            for (int k = 0; k < size; k++) {
                most = Math.max(most, offsets[order[k]] - valley.bells[order[k]].offset);
            }
            return most;
        }

        /** BELLS take the OFFSETS of the slate: how many have others than they had. */
        int takeOver() {
            int others = 0;
            for (int k = 0; k < size; k++) {
                Bell bell = valley.bells[order[k]];
                int offset = heldWithin(offsets[order[k]], -MOST_OFFSET, MOST_OFFSET);
                if (offset != bell.offset) {
                    bell.offset = offset;
                    others++;
                }
            }
            return others;
        }

        /** BELLS come by numbers, so of like OFFSETS the lesser number stays first. */
        private void insert(int bell) {
            if (size >= MOST_BELLS) {
                return;
            }
            int at = size;
            for (int turn = 0; turn < size; turn++) {
                if (valley.bells[order[at - 1]].offset <= valley.bells[bell].offset) {
                    break;
                }
                order[at] = order[at - 1];
                at--;
            }
            order[at] = bell;
            size++;
        }
    }

    /** What would be if BELLS were silent, moved, or new; after Hearing has listened. */
    private static final class Trials {
        private final Valley valley;
        private final Hearing hearing;
        private final int[] enemies = new int[MOST_BELLS];
        private final int[] badEars = new int[MOST_EARS];
        /** For each shift, MOST_BOUND added: WINDS, as bits, in which there is a CLASH. */
        private final int[] badWinds = new int[2 * MOST_BOUND + 1];

        Trials(Valley newValley, Hearing newHearing) {
            valley = newValley;
            hearing = newHearing;
        }

        int cheapestSilence() {
            for (int one = 0; one < valley.bellCount; one++) {
                enemies[one] = 0;
                for (int other = 0; other < valley.bellCount; other++) {
                    if (other != one && hearing.earsOfClash(one, other) != 0) {
                        enemies[one] |= 1 << other;
                    }
                }
            }
            int best = (1 << valley.bellCount) - 1;
            int bestRanks = valley.ranksOf(best);
            // From the greatest set down, so that of like ones the least is left.
            for (int set = best; set >= 0; set--) {
                int ranks = valley.ranksOf(set);
                if (ranks <= bestRanks && isSilenced(set)) {
                    best = set;
                    bestRanks = ranks;
                }
            }
            return best;
        }

        void tryShifts(int bell, int hour) {
            for (int i = 0; i < badWinds.length; i++) {
                badWinds[i] = 0;
            }
            for (int wind = -STRONGEST_WIND; wind <= STRONGEST_WIND; wind++) {
                hearing.listen(hour, wind);
                for (int ear = 0; ear < valley.earCount; ear++) {
                    markShifts(bell, ear, 1 << (wind + STRONGEST_WIND));
                }
            }
        }

        int windsAgainst(int shift) {
            int i = shift + MOST_BOUND;
            return i >= 0 && i < badWinds.length ? Integer.bitCount(badWinds[i]) : 0;
        }

        int bestShift() {
            int best = 0;
            for (int size = 1; size <= valley.bound; size++) {
                if (windsAgainst(-size) < windsAgainst(best)) {
                    best = -size;
                }
                if (windsAgainst(size) < windsAgainst(best)) {
                    best = size;
                }
            }
            return best;
        }

        /** In how many SPOTS of these a BELL that strikes would be in a CLASH. */
        int clashingSpots(int bell, int first, int last) {
            int clashing = 0;
            for (int spot = first; spot <= last; spot++) {
                if (clashesFrom(bell, spot)) {
                    clashing++;
                }
            }
            return clashing;
        }

        /** The greatest LOUD of a new BELL that is in no CLASH; -1: none. */
        int loudestAt(int spot) {
            int bad = 0;
            for (int ear = 0; ear < valley.earCount; ear++) {
                int second = wayBetween(spot, valley.earSpots[ear], valley.wind);
                if (hearing.isNear(ear, second, -1)) {
                    badEars[bad] = ear;
                    bad++;
                }
            }
            for (int loud = LOUDEST; loud >= 0; loud--) {
                if (!isHeardAtBad(bad, loud, spot)) {
                    return loud;
                }
            }
            return -1;
        }

        private boolean isSilenced(int set) {
            for (int bell = 0; bell < valley.bellCount; bell++) {
                if ((set >> bell & 1) == 0 && (enemies[bell] & ~set) != 0) {
                    return false;
                }
            }
            return true;
        }

        private void markShifts(int bell, int ear, int windBit) {
            int heard = hearing.heardAt(ear);
            if ((heard >> bell & 1) == 0) {
                return;
            }
            for (int other = 0; other < valley.bellCount; other++) {
                if (other != bell && (heard >> other & 1) != 0) {
                    int together = hearing.secondOf(other, ear) - hearing.secondOf(bell, ear);
                    int first = Math.max(-MOST_BOUND, together - valley.breath);
                    int last = Math.min(MOST_BOUND, together + valley.breath);
                    for (int shift = first; shift <= last; shift++) {
                        badWinds[shift + MOST_BOUND] |= windBit;
                    }
                }
            }
        }

        private boolean clashesFrom(int i, int spot) {
            Bell bell = valley.bells[i];
            for (int ear = 0; ear < valley.earCount; ear++) {
                int to = valley.earSpots[ear];
                int second = bell.offset + wayBetween(spot, to, valley.wind);
                if (hearing.isNear(ear, second, i)
                        && valley.strength(bell.kind, bell.loud, spot, to, valley.wind) > 0) {
                    return true;
                }
            }
            return false;
        }

        private boolean isHeardAtBad(int bad, int loud, int spot) {
            for (int i = 0; i < bad; i++) {
                int to = valley.earSpots[badEars[i]];
                if (valley.strength(0, loud, spot, to, valley.wind) > 0) {
                    return true;
                }
            }
            return false;
        }
    }

    /** VOICES, and THE TRACE of the latest one. */
    private static final class Voices {
        static final int ACTS = 4;
        private static final int MOST_BODIES = 40;
        private static final int DEEPEST = 30;
        private static final int RINGS = 0;
        private static final int SWINGS = 1;
        private static final int HUMS = 2;
        private static final int TELLS = 3;
        private static final int CHURCH = 1;
        private static final int SCHOOL = 2;
        private static final int TOWER = 4;
        private static final int FEAST = 5;
        private static final int STRAY = 6;
        /** By KIND, four acts each; 0: the KIND has no BODY of its own for it. */
        private static final int[] BODIES = {
            10, 11, 12, 13,
            0, 20, 0, 0,
            30, 0, 0, 0,
            0, 0, 40, 0,
            0, 50, 0, 0,
            0, 0, 0, 60,
            0, 0, 70, 71,
        };

        final int[] bodies = new int[MOST_BODIES];
        int begun;
        private int kind;
        private int n;
        private int m;

        int speak(Bell bell, int number, int act, int x) {
            begun = 0;
            kind = bell.kind;
            n = number;
            m = bell.m;
            return own(act, x, 0);
        }

        /** An act by the BODY of the BELL's own KIND. */
        private int own(int act, int x, int depth) {
            return run(bodyOf(kind, act), x, depth + 1);
        }

        /** super: an act by the BODY of a KIND above that of the BODY that asks. */
        private int above(int bodyKind, int act, int x, int depth) {
            return run(bodyOf(ABOVE[bodyKind], act), x, depth + 1);
        }

        private static int bodyOf(int firstKind, int act) {
            int step = firstKind;
            for (int turn = 0; turn < KINDS && step >= 0 && step < KINDS; turn++) {
                if (BODIES[step * ACTS + act] != 0) {
                    return BODIES[step * ACTS + act];
                }
                step = ABOVE[step];
            }
            return 0;
        }

        private int run(int body, int x, int depth) {
            if (depth > DEEPEST) {
                return 0;
            }
            if (begun < MOST_BODIES) {
                bodies[begun] = body;
                begun++;
            }
            switch (body) {
                case 10:
                    return x + n;
                case 11:
                    return own(RINGS, x, depth) * 2;
                case 12:
                    return x - m;
                case 13:
                    return own(SWINGS, x, depth) ^ own(HUMS, x, depth);
                case 20:
                    return above(CHURCH, SWINGS, x, depth) - own(HUMS, 1, depth);
                case 30:
                    return above(SCHOOL, RINGS, x, depth) * 3;
                case 40:
                    return -above(COW, HUMS, x, depth);
                case 50:
                    return above(TOWER, SWINGS, x + 1, depth);
                case 60:
                    return above(FEAST, TELLS, x, depth) - own(RINGS, 2, depth);
                case 70:
                    return above(STRAY, HUMS, x, depth) ^ n;
                case 71:
                    return own(SWINGS, x, depth) - above(STRAY, TELLS, x, depth);
                default:
                    return 0;
            }
        }
    }

    /** SHEETS 0 .. 3. */
    private static final class Sheets {
        static final int LONGEST = 40;
        private static final int MOST = 4;

        private final int[][] numbers = new int[MOST][LONGEST];
        private final int[] bits = new int[MOST];
        private final int[] sizes = new int[MOST];

        static boolean canBe(int sheet) {
            return sheet >= 0 && sheet < MOST;
        }

        static boolean canHave(int someBits) {
            return someBits == 0 || someBits == 8 || someBits == 16 || someBits == 32;
        }

        void begin(int sheet, int newBits, int size) {
            bits[sheet] = newBits;
            sizes[sheet] = size;
            for (int i = 0; i < LONGEST; i++) {
                numbers[sheet][i] = 0;
            }
        }

        boolean isMissing(int sheet) {
            return bits[sheet] == 0;
        }

        boolean areAlike(int sheet, int other) {
            return bits[sheet] == bits[other];
        }

        int sizeOf(int sheet) {
            return sizes[sheet];
        }

        int number(int sheet, int i) {
            return numbers[sheet][i];
        }

        /** Whether a SHEET has n numbers from number i on. */
        boolean stand(int sheet, int i, int n) {
            return n >= 0 && i >= 0 && i <= sizes[sheet] && n <= sizes[sheet] - i;
        }

        void write(int sheet, int i, int v) {
            numbers[sheet][i] = bits[sheet] == 32 ? v : v & ((1 << bits[sheet]) - 1);
        }

        void carry(int sheet, int i, int other, int j, int n) {
            System.arraycopy(numbers[sheet], i, numbers[other], j, n);
        }
    }
}
