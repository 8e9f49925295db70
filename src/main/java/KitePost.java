import java.util.Arrays;

/**
 * Letters by kite: hills, a wind by hours, kites, letters, and the ways ahead.
 *
 * <p>Every call answers a number; an answer that tells an error is LOW less its number. The state
 * that an image keeps stands in one object (Post), so that "as if hours went by" is a copy that
 * goes on by itself. All rows are made once, in constructors, and used again by every call.
 */
public final class KitePost {
    private static final int LOW = -1000000000;
    private static final int BEYOND = 1;
    private static final int NONE = 2;
    private static final int STATE = 3;
    private static final int FULL = 4;
    private static final int KIND = 5;

    private static final int MOST_HILLS = 9;
    private static final int MOST_KITES = 8;
    private static final int MOST_LETTERS = 12;
    private static final int MOST_BYTES = 50;
    private static final int MOST_WAITING = 20;
    private static final int MOST_TRACED = 40;
    private static final int MOST_NUMBERS = 40;
    private static final int SHEETS = 4;

    private static final int DAY = 24;
    private static final int MOST_HOURS = 72;
    private static final int MOST_SURE_HOURS = 10;
    private static final int LAST_TIME = 9999;
    private static final int MOST_LOAD = 999;
    private static final int MOST_PAID = 999999;
    private static final int LAST_WIND = 79;

    /** Fields of a LETTER, by the numbers that ofLetter() has for them. */
    private static final int FROM = 0;
    private static final int TO = 1;
    private static final int WEIGHT = 2;
    private static final int ANSWER = 3;
    private static final int WRITTEN = 4;
    private static final int ON = 5;
    private static final int ARRIVED = 6;
    private static final int LETTER_FIELDS = 7;

    private static final int LIFTS = 0;
    private static final int PAYS = 1;
    private static final String LIFTS_NAMES = "fdlk";
    private static final String PAYS_NAMES = "hw";

    /** The kite that fresh() puts on a new hill: KIND KITE, LIFT 40, LINE 20. */
    private static final int FRESH_KIND = 0;
    private static final int FRESH_LIFT_LINE = 4020;
    private static final int FRESH_PLACES = 64;

    private static final int[] DIR_X = {1, 1, 0, -1, -1, -1, 0, 1};
    private static final int[] DIR_Y = {0, 1, 1, 1, 0, -1, -1, -1};

    private final Post post = new Post();
    private final Post ahead = new Post();
    private final Post kept = new Post();
    private final Row bodies = new Row(MOST_TRACED);
    private final Sheet[] sheets = new Sheet[SHEETS];
    private final int[] errors = new int[KIND + 1];
    private final int[] reach = new int[MOST_SURE_HOURS * MOST_KITES];
    private int images;

    public KitePost() {
        for (int i = 0; i < SHEETS; i++) {
            sheets[i] = new Sheet();
        }
    }

    // ---- hills, wind, kites

    public int hill(int xy, int high) {
        if (!within(xy, 0, 255) || !within(high, 0, 9)) {
            return error(BEYOND);
        }
        if (post.hillAt(xy) >= 0) {
            return error(STATE);
        }
        if (post.hillCount >= MOST_HILLS) {
            return error(FULL);
        }
        return post.addHill(xy, high);
    }

    public int ofHill(int hill, int what) {
        if (!post.isHill(hill)) {
            return error(BEYOND);
        }
        switch (what) {
            case 0:
                return post.placeOf(hill);
            case 1:
                return post.heightOf(hill);
            case 2:
                return post.lettersOn(hill);
            default:
                return error(BEYOND);
        }
    }

    public int wind(int hour, int df) {
        if (!within(hour, 0, DAY - 1) || !within(df, 0, LAST_WIND)) {
            return error(BEYOND);
        }
        int was = post.windAt(hour);
        post.changeWind(hour, df);
        return was;
    }

    public int kite(int km, int home, int ll) {
        if (!within(km, 0, 69) || !post.isHill(home) || !within(ll, 0, 9999)
                || !within(ll % 100, 1, 40)) {
            return error(BEYOND);
        }
        if (post.kiteCount >= MOST_KITES) {
            return error(FULL);
        }
        return post.addKite(km, home, ll);
    }

    public int ofKite(int kite, int what) {
        Kite one = post.kiteAt(kite);
        if (one == null) {
            return error(BEYOND);
        }
        switch (what) {
            case 0:
                return one.kind;
            case 1:
                return one.mark;
            case 2:
                return one.home;
            case 3:
                return one.lift;
            case 4:
                return one.line;
            case 5:
                return post.aimOf(kite);
            default:
                return error(BEYOND);
        }
    }

    public int as(int kite, int kind) {
        Kite one = post.kiteAt(kite);
        if (one == null || !within(kind, 0, 6)) {
            return error(BEYOND);
        }
        return isOfKind(one, kind) ? one.lift : error(KIND);
    }

    public int aim(int kite, int hill) {
        Kite one = post.kiteAt(kite);
        if (one == null || hill != -1 && !post.isHill(hill)) {
            return error(BEYOND);
        }
        if (hill == one.home) {
            return error(STATE);
        }
        int was = post.aimOf(kite);
        post.changeAim(kite, hill);
        return was;
    }

    public int pull(int kite, int hill, int load) {
        Kite one = post.kiteAt(kite);
        if (one == null || !post.isHill(hill) || !within(load, 0, MOST_LOAD)) {
            return error(BEYOND);
        }
        return post.pullAt(one, hill, load, post.time);
    }

    public int stands(int kite, int hill, int load) {
        Kite one = post.kiteAt(kite);
        if (one == null || !post.isHill(hill) || !within(load, 0, MOST_LOAD)) {
            return error(BEYOND);
        }
        return post.standsAt(one, hill, load, post.time) ? 1 : 0;
    }

    public int over(int kite, int hour, int load) {
        Kite one = post.kiteAt(kite);
        if (one == null || !within(hour, 0, DAY - 1) || !within(load, 0, MOST_LOAD)) {
            return error(BEYOND);
        }
        int beginOfDay = post.time - post.time % DAY;
        return post.overAt(one, load, beginOfDay + hour);
    }

    // ---- texts

    public int feed(long word, int n) {
        if (!within(n, 1, 8)) {
            return error(BEYOND);
        }
        if (post.tape.size + n > MOST_BYTES) {
            return error(FULL);
        }
        for (int i = 0; i < n; i++) {
            post.tape.add((int) (word >>> 8 * i) & 255);
        }
        return post.tape.size;
    }

    public int text(int use) {
        if (!within(use, LIFTS, PAYS)) {
            return error(BEYOND);
        }
        Text place = use == LIFTS ? post.lifting : post.paying;
        int fault = place.read(post.tape);
        post.tape.clear();
        return fault < 0 ? 1 : -10 - fault;
    }

    public int law(int use, int a, int b, int c, int d) {
        switch (use) {
            case LIFTS:
                return post.lifting.givenBy(a, b, c, d);
            case PAYS:
                return post.paying.givenBy(a, b, c, d);
            default:
                return error(BEYOND);
        }
    }

    // ---- lines, letters

    public int cross(int one, int other) {
        if (post.kiteAt(one) == null || post.kiteAt(other) == null || one == other) {
            return error(BEYOND);
        }
        int both = 1 << one | 1 << other;
        boolean haveLines = (post.lineBits(post.time) & both) == both;
        return haveLines && post.linesMeet(one, other) ? 1 : 0;
    }

    public int lines(int what) {
        if (!within(what, 0, 1)) {
            return error(BEYOND);
        }
        int having = post.lineBits(post.time);
        return what == 0 ? having : post.downBits(having);
    }

    public int letter(int from, int to, int weight, int answer) {
        if (!post.areTwoHills(from, to) || !within(weight, 0, 30)
                || !within(answer, -1, post.letterCount - 1)) {
            return error(BEYOND);
        }
        if (post.letterCount >= MOST_LETTERS) {
            return error(FULL);
        }
        return post.addLetter(from, to, weight, answer);
    }

    public int ofLetter(int letter, int what) {
        if (!post.isLetter(letter) || !within(what, 0, LETTER_FIELDS - 1)) {
            return error(BEYOND);
        }
        return post.ofOne(letter, what);
    }

    public int hours(int n) {
        if (!within(n, 1, MOST_HOURS)) {
            return error(BEYOND);
        }
        if (post.time + n > LAST_TIME) {
            return error(STATE);
        }
        post.passHours(n);
        return post.time;
    }

    public int loose(int n, int loose) {
        if (!within(n, 1, MOST_HOURS) || !within(loose, 0, 10)) {
            return error(BEYOND);
        }
        if (post.time + n > LAST_TIME) {
            return error(STATE);
        }
        for (int i = 0; i < n; i++) {
            if (post.nextDraw() % 10 < loose) {
                post.time++;
            } else {
                post.passHours(1);
            }
        }
        return post.time;
    }

    // ---- ahead, ways

    public int then(int n, int what) {
        if (!within(n, 0, MOST_HOURS) || !within(what, 0, 1)) {
            return error(BEYOND);
        }
        ahead.copyFrom(post);
        ahead.passHours(n);
        return what == 0 ? ahead.arrivals.size : ahead.paid;
    }

    public int where(int n, int letter, int what) {
        if (!within(n, 0, MOST_HOURS) || !post.isLetter(letter) || !within(what, ON, ARRIVED)) {
            return error(BEYOND);
        }
        ahead.copyFrom(post);
        ahead.passHours(n);
        return ahead.ofOne(letter, what);
    }

    public int soonest(int from, int to, int weight) {
        if (!post.areTwoHills(from, to) || !within(weight, 0, MOST_LOAD)) {
            return error(BEYOND);
        }
        int fewest = post.fewestHours(from, to, weight, MOST_HOURS);
        return fewest < 0 ? error(NONE) : fewest;
    }

    public long sure(int ft, int weight, int nc, int part) {
        if (ft < 0 || !post.areTwoHills(ft / 10, ft % 10) || !within(weight, 0, MOST_LOAD)
                || nc < 0 || nc / 100 > MOST_SURE_HOURS || nc % 100 > 10 || !within(part, 0, 1)) {
            return error(BEYOND);
        }
        int n = nc / 100;
        fillReach(weight, n);
        long cases = casesThere(1 << ft / 10, ft % 10, 0, n, nc % 100);
        return inLowestTerms(cases, n, part);
    }

    public int best(int kite, int n) {
        Kite one = post.kiteAt(kite);
        if (one == null || !within(n, 0, MOST_HOURS)) {
            return error(BEYOND);
        }
        int bestAim = -1;
        int most = -1;
        for (int hill = -1; hill < post.hillCount; hill++) {
            if (hill == one.home) {
                continue;
            }
            ahead.copyFrom(post);
            ahead.changeAim(kite, hill);
            ahead.passHours(n);
            if (ahead.arrivals.size > most) {
                most = ahead.arrivals.size;
                bestAim = hill;
            }
        }
        return bestAim;
    }

    public int fresh(int from, int to, int weight, int what) {
        if (!post.areTwoHills(from, to) || !within(weight, 0, MOST_LOAD) || !within(what, 0, 1)) {
            return error(BEYOND);
        }
        if (post.hillCount >= MOST_HILLS || post.kiteCount >= MOST_KITES) {
            return error(STATE);
        }
        ahead.copyFrom(post);
        int site = ahead.addHill(0, 0);
        ahead.addKite(FRESH_KIND, site, FRESH_LIFT_LINE);
        int least = MOST_HOURS + 1;
        int leastPlace = -1;
        for (int i = 0; i < FRESH_PLACES && least > 1; i++) {
            int xy = 32 * (i / 8) + 2 * (i % 8);
            if (post.hillAt(xy) >= 0) {
                continue;
            }
            ahead.changePlace(site, xy);
            // only fewer hours than by a place ahead of this one matter
            int fewest = ahead.fewestHours(from, to, weight, least - 1);
            if (fewest > 0) {
                least = fewest;
                leastPlace = xy;
            }
        }
        if (leastPlace < 0) {
            return error(NONE);
        }
        return what == 0 ? leastPlace : least;
    }

    public int order(int what, int i) {
        if (!within(what, 0, 1) || i < 0) {
            return error(BEYOND);
        }
        if (i >= post.arrivals.size) {
            return error(NONE);
        }
        return what == 0 ? post.arrivals.get(i) : post.mendedAt(i);
    }

    public int before() {
        int early = post.firstBeforeQuestion();
        return early < 0 ? error(NONE) : early;
    }

    // ---- draws, voices, sheets, images, what is told

    public int seed(int v) {
        int was = post.drawn;
        post.drawn = v;
        return was;
    }

    public int voice(int kite, int act, int x) {
        Kite one = post.kiteAt(kite);
        if (one == null || !within(act, 0, 3)) {
            return error(BEYOND);
        }
        bodies.clear();
        switch (act) {
            case 0:
                return one.lifts(x, bodies);
            case 1:
                return one.sways(x, bodies);
            case 2:
                return one.sinks(x, bodies);
            default:
                return one.tells(x, bodies);
        }
    }

    public int trace(int i) {
        return within(i, 0, bodies.size - 1) ? bodies.get(i) : error(NONE);
    }

    public int sheet(int sheet, int bits, int n) {
        Sheet one = sheetAt(sheet);
        if (one == null || bits != 0 && bits != 8 && bits != 16 && bits != 32) {
            return error(BEYOND);
        }
        if (bits == 0) {
            one.become(0, 0);
            return 1;
        }
        if (n < 0) {
            return error(STATE);
        }
        if (n > MOST_NUMBERS) {
            return error(BEYOND);
        }
        one.become(bits, n);
        return 1;
    }

    public int put(int sheet, int i, int v) {
        Sheet one = sheetAt(sheet);
        if (one == null) {
            return error(BEYOND);
        }
        if (one.isMissing()) {
            return error(NONE);
        }
        if (!within(i, 0, one.size - 1)) {
            return error(BEYOND);
        }
        one.change(i, v);
        return 1;
    }

    public int move(int sheet, int i, int other, int j, int n) {
        Sheet source = sheetAt(sheet);
        Sheet target = sheetAt(other);
        if (source == null || target == null) {
            return error(BEYOND);
        }
        if (source.isMissing() || target.isMissing()) {
            return error(NONE);
        }
        if (source.bits != target.bits) {
            return error(KIND);
        }
        if (!source.holds(i, n) || !target.holds(j, n)) {
            return error(BEYOND);
        }
        System.arraycopy(source.numbers, i, target.numbers, j, n);
        return n;
    }

    public int winds(int sheet) {
        Sheet one = sheetAt(sheet);
        if (one == null) {
            return error(BEYOND);
        }
        if (one.isMissing()) {
            return error(NONE);
        }
        int came = 0;
        for (int hour = 0; hour < DAY && hour < one.size; hour++) {
            int df = one.numberAt(hour);
            if (!within(df, 0, LAST_WIND)) {
                break;
            }
            post.changeWind(hour, df);
            came++;
        }
        return came;
    }

    public int image() {
        kept.copyFrom(post);
        images++;
        return images;
    }

    public int restore() {
        if (images == 0) {
            return error(NONE);
        }
        post.copyFrom(kept);
        return post.time;
    }

    public int tell(int v) {
        return post.waiting.add(v) ? post.waiting.size : error(FULL);
    }

    public int check(int letter) {
        if (!post.isLetter(letter)) {
            post.waiting.clear();
            return error(BEYOND);
        }
        ahead.copyFrom(post);
        int answer = 0;
        for (int i = 0; i < post.waiting.size && answer == 0; i++) {
            ahead.passHours(1);
            if (ahead.ofOne(letter, ON) != post.waiting.get(i)) {
                answer = 1 + i;
            }
        }
        post.waiting.clear();
        return answer;
    }

    public int count(int what) {
        switch (what) {
            case 0:
                return post.time;
            case 1:
                return post.hillCount;
            case 2:
                return post.kiteCount;
            case 3:
                return post.letterCount;
            case 4:
                return post.arrivals.size;
            case 5:
                return post.paid;
            case 6:
                return post.tape.size;
            case 7:
                return post.waiting.size;
            case 8:
                return bodies.size;
            case 9:
                return post.drawn;
            default:
                return error(BEYOND);
        }
    }

    public int told(int k) {
        return within(k, BEYOND, KIND) ? errors[k] : error(BEYOND);
    }

    // ---- what the calls share

    private static boolean within(int v, int least, int most) {
        return v >= least && v <= most;
    }

    private int error(int k) {
        if (within(k, BEYOND, KIND)) {
            errors[k]++;
        }
        return LOW - k;
    }

    private Sheet sheetAt(int i) {
        return within(i, 0, SHEETS - 1) ? sheets[i] : null;
    }

    private static boolean isOfKind(Kite kite, int kind) {
        switch (kind) {
            case 0:
                return true;
            case 1:
                return kite instanceof Boxed;
            case 2:
                return kite instanceof Tailed;
            case 3:
                return kite instanceof Silk;
            case 4:
                return kite instanceof Doubled;
            case 5:
                return kite instanceof LongTailed;
            default:
                return kite instanceof Old;
        }
    }

    /** Works out once over which hills each kite stands in each of n hours, for casesThere(). */
    private void fillReach(int weight, int n) {
        for (int i = 0; i < n && i < MOST_SURE_HOURS; i++) {
            for (int k = 0; k < MOST_KITES; k++) {
                Kite kite = post.kiteAt(k);
                reach[i * MOST_KITES + k] =
                        kite == null ? 0 : post.overAt(kite, weight, post.time + i);
            }
        }
    }

    /**
     * How many of the 10 to the (n - i) like cases of the hours from i on bring a letter to a hill,
     * if it can be on the hills of reached as hour i begins.
     */
    private long casesThere(int reached, int to, int i, int n, int calm) {
        if ((reached >> to & 1) != 0) {
            return tenTo(n - i);
        }
        if (i >= n || i >= MOST_SURE_HOURS) {
            return 0;
        }
        int next = reachedBehind(reached, i);
        long ifCalm = casesThere(reached, to, i + 1, n, calm);
        if (next == reached) {
            return 10 * ifCalm;
        }
        return calm * ifCalm + (10 - calm) * casesThere(next, to, i + 1, n, calm);
    }

    private int reachedBehind(int reached, int i) {
        int next = reached;
        for (int k = 0; k < MOST_KITES; k++) {
            Kite kite = post.kiteAt(k);
            if (kite != null && (reached >> kite.home & 1) != 0) {
                next |= reach[i * MOST_KITES + k];
            }
        }
        return next;
    }

    private static long tenTo(int n) {
        long power = 1;
        for (int i = 0; i < n; i++) {
            power *= 10;
        }
        return power;
    }

    /** cases by 10 to the n: only 2 and 5 can be taken out, n times each (all of them of 0 cases). */
    private static long inLowestTerms(long cases, int n, int part) {
        long above = cases;
        long below = tenTo(n);
        for (int i = 0; i < n; i++) {
            if (above % 2 == 0) {
                above /= 2;
                below /= 2;
            }
            if (above % 5 == 0) {
                above /= 5;
                below /= 5;
            }
        }
        return part == 0 ? above : below;
    }

    /** Numbers in a row, up to a length that is told once. */
    private static final class Row {
        private final int[] cells;
        int size;

        Row(int most) {
            cells = new int[Math.max(most, 0)];
        }

        boolean add(int v) {
            if (size >= cells.length) {
                return false;
            }
            cells[size] = v;
            size++;
            return true;
        }

        int get(int i) {
            return i >= 0 && i < size ? cells[i] : 0;
        }

        void clear() {
            size = 0;
        }

        void copyFrom(Row other) {
            int n = Math.min(other.size, cells.length);
            System.arraycopy(other.cells, 0, cells, 0, n);
            size = n;
        }
    }

    /** A sheet: numbers of so many bits; bits 0 while it is missing. */
    private static final class Sheet {
        final int[] numbers = new int[MOST_NUMBERS];
        int bits;
        int size;

        boolean isMissing() {
            return bits == 0;
        }

        void become(int newBits, int n) {
            bits = newBits;
            size = n;
            Arrays.fill(numbers, 0);
        }

        void change(int i, int v) {
            if (i >= 0 && i < size && i < numbers.length) {
                numbers[i] = bits == 32 ? v : v & (1 << bits) - 1;
            }
        }

        int numberAt(int i) {
            return i >= 0 && i < size && i < numbers.length ? numbers[i] : 0;
        }

        boolean holds(int from, int n) {
            return from >= 0 && n >= 0 && from <= size && n <= size - from;
        }
    }

    /**
     * The text of a use, as steps in the order in which they are worked out: 0 and above a number,
     * -1 to -4 a name, below that a sign (less its character).
     */
    private static final class Text {
        private static final int MOST_DIGITS = 4;
        private static final int MOST_OPEN = 5;
        private static final int MOST_NAMES = 4;
        private static final int COMPARISON = 2;
        private static final int PART = 5;

        private final int use;
        private final Row steps = new Row(MOST_BYTES);
        private final Row draft = new Row(MOST_BYTES);
        private final int[] stack = new int[MOST_BYTES];
        private Row tape;
        private int place;
        private boolean faulty;

        /** As if 0 had been read for LIFTS, w+1 for PAYS. */
        Text(int use) {
            this.use = use;
            if (use == LIFTS) {
                steps.add(0);
            } else {
                steps.add(-2);
                steps.add(1);
                steps.add(-'+');
            }
        }

        void copyFrom(Text other) {
            steps.copyFrom(other.steps);
        }

        /** Reads all of a tape: -1, or the place of the fault (then what was read ahead stays). */
        int read(Row bytes) {
            tape = bytes;
            place = 0;
            faulty = false;
            draft.clear();
            readLevel(0, 0);
            if (faulty || place < bytes.size) {
                return place;
            }
            steps.copyFrom(draft);
            return -1;
        }

        /** The byte that is next; -1 behind the last, and once there is a fault. */
        private int next() {
            return faulty || tape == null || place >= tape.size ? -1 : tape.get(place);
        }

        private static String signsOf(int level) {
            switch (level) {
                case 0:
                    return "|";
                case 1:
                    return "&";
                case COMPARISON:
                    return "<=>";
                case 3:
                    return "+-";
                default:
                    return "*/%";
            }
        }

        private static int indexIn(String signs, int sign) {
            return sign < 0 ? -1 : signs.indexOf((char) sign);
        }

        /** T, A, B, S, P are levels 0 to 4: parts of the level below, with signs between them. */
        private void readLevel(int level, int open) {
            if (level >= PART) {
                readPart(open);
                return;
            }
            readLevel(level + 1, open);
            String signs = signsOf(level);
            int most = level == COMPARISON ? 1 : MOST_BYTES;
            for (int i = 0; i < most && indexIn(signs, next()) >= 0; i++) {
                int sign = next();
                place++;
                readLevel(level + 1, open);
                draft.add(-sign);
            }
        }

        private void readPart(int open) {
            int sign = next();
            int name = indexIn(use == LIFTS ? LIFTS_NAMES : PAYS_NAMES, sign);
            if (isDigit(sign)) {
                readNumber();
            } else if (name >= 0) {
                place++;
                draft.add(-1 - name);
            } else if (sign == '!' && open < MOST_OPEN) {
                place++;
                readPart(open + 1);
                draft.add(-'!');
            } else if (sign == '(' && open < MOST_OPEN) {
                place++;
                readLevel(0, open + 1);
                readClosing();
            } else {
                faulty = true;
            }
        }

        private static boolean isDigit(int sign) {
            return sign >= '0' && sign <= '9';
        }

        private void readNumber() {
            int number = 0;
            for (int i = 0; i < MOST_DIGITS && isDigit(next()); i++) {
                number = 10 * number + next() - '0';
                place++;
            }
            draft.add(number);
        }

        private void readClosing() {
            if (next() == ')') {
                place++;
            } else {
                faulty = true;
            }
        }

        /** What the use gives with its names in order as a, b, c, d. */
        int givenBy(int a, int b, int c, int d) {
            int top = 0;
            for (int i = 0; i < steps.size; i++) {
                int step = steps.get(i);
                if (step >= -MOST_NAMES) {
                    if (top < stack.length) {
                        stack[top] = step >= 0 ? step : nameOf(step, a, b, c, d);
                        top++;
                    }
                } else if (step == -'!') {
                    if (top >= 1) {
                        stack[top - 1] = stack[top - 1] == 0 ? 1 : 0;
                    }
                } else if (top >= 2) {
                    top--;
                    stack[top - 1] = joined(-step, stack[top - 1], stack[top]);
                }
            }
            return use == LIFTS ? Math.max(-99, Math.min(99, stack[0]))
                    : Math.max(0, Math.min(999, stack[0]));
        }

        private static int nameOf(int step, int a, int b, int c, int d) {
            switch (step) {
                case -1:
                    return a;
                case -2:
                    return b;
                case -3:
                    return c;
                default:
                    return d;
            }
        }

        private static int joined(int sign, int left, int right) {
            switch (sign) {
                case '|':
                    return left != 0 || right != 0 ? 1 : 0;
                case '&':
                    return left != 0 && right != 0 ? 1 : 0;
                case '<':
                    return left < right ? 1 : 0;
                case '=':
                    return left == right ? 1 : 0;
                case '>':
                    return left > right ? 1 : 0;
                case '+':
                    return left + right;
                case '-':
                    return left - right;
                case '*':
                    return left * right;
                case '/':
                    return right == 0 ? 0 : left / right;
                default:
                    return right == 0 ? 0 : left % right;
            }
        }
    }

    /** A kite of KIND KITE. A kite never changes (its aim stands in Post), so images share it. */
    private static class Kite {
        final int number;
        final int kind;
        final int mark;
        final int home;
        final int lift;
        final int line;

        Kite(int number, int km, int home, int ll) {
            this.number = number;
            this.kind = km / 10;
            this.mark = km % 10;
            this.home = home;
            this.lift = ll / 100;
            this.line = ll % 100;
        }

        /** What it pulls, where a KITE would pull so much (plain). */
        int strength(int plain, int force, int days) {
            return plain;
        }

        int lifts(int x, Row bodies) {
            bodies.add(10);
            return x + number;
        }

        int sways(int x, Row bodies) {
            bodies.add(11);
            return lifts(x, bodies) * 2;
        }

        int sinks(int x, Row bodies) {
            bodies.add(12);
            return x - mark;
        }

        int tells(int x, Row bodies) {
            bodies.add(13);
            return sways(x, bodies) ^ sinks(x, bodies);
        }
    }

    private static class Boxed extends Kite {
        Boxed(int number, int km, int home, int ll) {
            super(number, km, home, ll);
        }

        int strength(int plain, int force, int days) {
            return force <= 2 ? plain - 9 : plain;
        }

        int sways(int x, Row bodies) {
            bodies.add(20);
            return super.sways(x, bodies) - sinks(1, bodies);
        }
    }

    private static class Tailed extends Kite {
        Tailed(int number, int km, int home, int ll) {
            super(number, km, home, ll);
        }

        int strength(int plain, int force, int days) {
            return plain - force;
        }

        int lifts(int x, Row bodies) {
            bodies.add(30);
            return super.lifts(x, bodies) * 3;
        }
    }

    private static class Silk extends Kite {
        Silk(int number, int km, int home, int ll) {
            super(number, km, home, ll);
        }

        int strength(int plain, int force, int days) {
            return force <= 4 ? plain + mark : plain - mark;
        }

        int sinks(int x, Row bodies) {
            bodies.add(40);
            return -super.sinks(x, bodies);
        }
    }

    private static final class Doubled extends Boxed {
        Doubled(int number, int km, int home, int ll) {
            super(number, km, home, ll);
        }

        int strength(int plain, int force, int days) {
            return 2 * super.strength(plain, force, days);
        }

        int sways(int x, Row bodies) {
            bodies.add(50);
            return super.sways(x + 1, bodies);
        }
    }

    private static final class LongTailed extends Tailed {
        LongTailed(int number, int km, int home, int ll) {
            super(number, km, home, ll);
        }

        int strength(int plain, int force, int days) {
            return super.strength(plain, force, days) + line / 4;
        }

        int tells(int x, Row bodies) {
            bodies.add(60);
            return super.tells(x, bodies) - lifts(2, bodies);
        }
    }

    private static final class Old extends Silk {
        Old(int number, int km, int home, int ll) {
            super(number, km, home, ll);
        }

        int strength(int plain, int force, int days) {
            return super.strength(plain, force, days) - days;
        }

        int sinks(int x, Row bodies) {
            bodies.add(70);
            return super.sinks(x, bodies) ^ number;
        }

        int tells(int x, Row bodies) {
            bodies.add(71);
            return sways(x, bodies) - super.tells(x, bodies);
        }
    }

    /** All that an image keeps. A time is counted in hours; its hour of the day and day follow. */
    private static final class Post {
        private final int[] xs = new int[MOST_HILLS];
        private final int[] ys = new int[MOST_HILLS];
        private final int[] heights = new int[MOST_HILLS];
        int hillCount;
        private final int[] windsByHour = new int[DAY];
        private final Kite[] kites = new Kite[MOST_KITES];
        private final int[] aims = new int[MOST_KITES];
        int kiteCount;
        private final int[] letters = new int[MOST_LETTERS * LETTER_FIELDS];
        int letterCount;
        final Row arrivals = new Row(MOST_LETTERS);
        final Row tape = new Row(MOST_BYTES);
        final Row waiting = new Row(MOST_WAITING);
        final Text lifting = new Text(LIFTS);
        final Text paying = new Text(PAYS);
        int time;
        int paid;
        int drawn = 1;

        Post() {
            Arrays.fill(windsByHour, 3);
        }

        void copyFrom(Post other) {
            System.arraycopy(other.xs, 0, xs, 0, MOST_HILLS);
            System.arraycopy(other.ys, 0, ys, 0, MOST_HILLS);
            System.arraycopy(other.heights, 0, heights, 0, MOST_HILLS);
            hillCount = other.hillCount;
            System.arraycopy(other.windsByHour, 0, windsByHour, 0, DAY);
            for (int k = 0; k < MOST_KITES; k++) {
                kites[k] = other.kites[k];
            }
            System.arraycopy(other.aims, 0, aims, 0, MOST_KITES);
            kiteCount = other.kiteCount;
            System.arraycopy(other.letters, 0, letters, 0, MOST_LETTERS * LETTER_FIELDS);
            letterCount = other.letterCount;
            arrivals.copyFrom(other.arrivals);
            tape.copyFrom(other.tape);
            waiting.copyFrom(other.waiting);
            lifting.copyFrom(other.lifting);
            paying.copyFrom(other.paying);
            time = other.time;
            paid = other.paid;
            drawn = other.drawn;
        }

        // hills and wind

        boolean isHill(int hill) {
            return hill >= 0 && hill < hillCount && hill < MOST_HILLS;
        }

        boolean areTwoHills(int from, int to) {
            return isHill(from) && isHill(to) && from != to;
        }

        int hillAt(int xy) {
            for (int h = 0; h < hillCount; h++) {
                if (placeOf(h) == xy) {
                    return h;
                }
            }
            return -1;
        }

        int addHill(int xy, int high) {
            if (hillCount >= MOST_HILLS) {
                return -1;
            }
            int hill = hillCount;
            hillCount++;
            heights[hill] = high;
            changePlace(hill, xy);
            return hill;
        }

        void changePlace(int hill, int xy) {
            if (isHill(hill)) {
                xs[hill] = xy / 16;
                ys[hill] = xy % 16;
            }
        }

        int placeOf(int hill) {
            return 16 * xOf(hill) + yOf(hill);
        }

        int heightOf(int hill) {
            return isHill(hill) ? heights[hill] : 0;
        }

        private int xOf(int hill) {
            return hill >= 0 && hill < MOST_HILLS ? xs[hill] : 0;
        }

        private int yOf(int hill) {
            return hill >= 0 && hill < MOST_HILLS ? ys[hill] : 0;
        }

        private int far(int one, int other) {
            return Math.abs(xOf(one) - xOf(other)) + Math.abs(yOf(one) - yOf(other));
        }

        int windAt(int when) {
            int hour = when % DAY;
            return hour >= 0 ? windsByHour[hour] : 0;
        }

        void changeWind(int hour, int df) {
            if (within(hour, 0, DAY - 1)) {
                windsByHour[hour] = df;
            }
        }

        // kites

        Kite kiteAt(int k) {
            return k >= 0 && k < kiteCount && k < MOST_KITES ? kites[k] : null;
        }

        int addKite(int km, int home, int ll) {
            if (kiteCount >= MOST_KITES) {
                return -1;
            }
            kites[kiteCount] = made(kiteCount, km, home, ll);
            aims[kiteCount] = -1;
            kiteCount++;
            return kiteCount - 1;
        }

        private static Kite made(int number, int km, int home, int ll) {
            switch (km / 10) {
                case 1:
                    return new Boxed(number, km, home, ll);
                case 2:
                    return new Tailed(number, km, home, ll);
                case 3:
                    return new Silk(number, km, home, ll);
                case 4:
                    return new Doubled(number, km, home, ll);
                case 5:
                    return new LongTailed(number, km, home, ll);
                case 6:
                    return new Old(number, km, home, ll);
                default:
                    return new Kite(number, km, home, ll);
            }
        }

        int aimOf(int k) {
            return within(k, 0, MOST_KITES - 1) ? aims[k] : -1;
        }

        void changeAim(int k, int hill) {
            if (within(k, 0, MOST_KITES - 1)) {
                aims[k] = hill;
            }
        }

        int pullAt(Kite kite, int hill, int load, int when) {
            int force = windAt(when) % 10;
            int climb = Math.max(0, heightOf(hill) - heightOf(kite.home));
            int plain = kite.lift + 2 * force - load - 3 * climb;
            return kite.strength(plain, force, when / DAY)
                    + lifting.givenBy(force, far(kite.home, hill), load, kite.kind);
        }

        boolean standsAt(Kite kite, int hill, int load, int when) {
            int wind = windAt(when);
            return hill != kite.home && wind % 10 != 0 && far(kite.home, hill) <= kite.line
                    && isDownWind(kite.home, hill, wind / 10)
                    && pullAt(kite, hill, load, when) >= 0;
        }

        private boolean isDownWind(int home, int hill, int dir) {
            if (!within(dir, 0, 7)) {
                return false;
            }
            int alongX = (xOf(hill) - xOf(home)) * DIR_X[dir];
            int alongY = (yOf(hill) - yOf(home)) * DIR_Y[dir];
            return alongX + alongY > 0;
        }

        int overAt(Kite kite, int load, int when) {
            int bits = 0;
            for (int h = 0; h < hillCount; h++) {
                if (standsAt(kite, h, load, when)) {
                    bits |= 1 << h;
                }
            }
            return bits;
        }

        // lines

        int lineBits(int when) {
            int bits = 0;
            for (int k = 0; k < kiteCount; k++) {
                Kite kite = kiteAt(k);
                int aim = aimOf(k);
                if (kite != null && aim >= 0 && standsAt(kite, aim, 0, when)) {
                    bits |= 1 << k;
                }
            }
            return bits;
        }

        /** Of the kites that have lines, those that are down. */
        int downBits(int having) {
            int left = having;
            int up = 0;
            for (int i = 0; i < MOST_KITES && left != 0; i++) {
                int k = greatestLift(left);
                left &= ~(1 << k);
                boolean isDown = false;
                for (int other = 0; other < kiteCount && !isDown; other++) {
                    isDown = (up >> other & 1) != 0 && linesMeet(k, other);
                }
                if (!isDown) {
                    up |= 1 << k;
                }
            }
            return having & ~up;
        }

        /** Of like ones the least number. */
        private int greatestLift(int bits) {
            int greatest = 0;
            int lift = -1;
            for (int k = 0; k < kiteCount; k++) {
                Kite kite = kiteAt(k);
                if (kite != null && (bits >> k & 1) != 0 && kite.lift > lift) {
                    lift = kite.lift;
                    greatest = k;
                }
            }
            return greatest;
        }

        /**
         * Whether the lines of two kites have a point in common that isn't an end of both: they
         * are one and the same, or an end of one lies inside the other, or they pass through each
         * other.
         */
        boolean linesMeet(int one, int other) {
            Kite first = kiteAt(one);
            Kite second = kiteAt(other);
            if (first == null || second == null) {
                return false;
            }
            int a = first.home;
            int b = aimOf(one);
            int c = second.home;
            int d = aimOf(other);
            if (a == c && b == d || a == d && b == c) {
                return true;
            }
            if (isInside(a, c, d) || isInside(b, c, d) || isInside(c, a, b) || isInside(d, a, b)) {
                return true;
            }
            return areApart(turn(a, b, c), turn(a, b, d)) && areApart(turn(c, d, a), turn(c, d, b));
        }

        private static boolean areApart(int turn, int otherTurn) {
            return turn < 0 && otherTurn > 0 || turn > 0 && otherTurn < 0;
        }

        /** On which side of the way from one hill to another a third one lies; 0: on it. */
        private int turn(int from, int to, int third) {
            return (xOf(to) - xOf(from)) * (yOf(third) - yOf(from))
                    - (yOf(to) - yOf(from)) * (xOf(third) - xOf(from));
        }

        private boolean isInside(int hill, int end, int otherEnd) {
            return hill != end && hill != otherEnd && turn(end, otherEnd, hill) == 0
                    && (xOf(hill) - xOf(end)) * (xOf(hill) - xOf(otherEnd)) <= 0
                    && (yOf(hill) - yOf(end)) * (yOf(hill) - yOf(otherEnd)) <= 0;
        }

        // letters

        boolean isLetter(int letter) {
            return letter >= 0 && letter < letterCount && letter < MOST_LETTERS;
        }

        int ofOne(int letter, int what) {
            return isLetter(letter) && within(what, 0, LETTER_FIELDS - 1)
                    ? letters[letter * LETTER_FIELDS + what] : -1;
        }

        private void change(int letter, int what, int v) {
            if (isLetter(letter) && within(what, 0, LETTER_FIELDS - 1)) {
                letters[letter * LETTER_FIELDS + what] = v;
            }
        }

        int addLetter(int from, int to, int weight, int answer) {
            if (letterCount >= MOST_LETTERS) {
                return -1;
            }
            int letter = letterCount;
            letterCount++;
            change(letter, FROM, from);
            change(letter, TO, to);
            change(letter, WEIGHT, weight);
            change(letter, ANSWER, answer);
            change(letter, WRITTEN, time);
            change(letter, ON, from);
            change(letter, ARRIVED, -1);
            return letter;
        }

        private boolean waitsOn(int letter, int hill) {
            return ofOne(letter, ON) == hill && ofOne(letter, ARRIVED) < 0;
        }

        int lettersOn(int hill) {
            int bits = 0;
            for (int l = 0; l < letterCount; l++) {
                if (waitsOn(l, hill)) {
                    bits |= 1 << l;
                }
            }
            return bits;
        }

        // hours

        void passHours(int n) {
            for (int i = 0; i < n; i++) {
                passHour();
            }
        }

        int nextDraw() {
            drawn = drawn * 1103515245 + 12345;
            return drawn >>> 8;
        }

        private void passHour() {
            int having = arrivals.size < letterCount ? lineBits(time) : 0;
            // which lines are down is asked only if one of them could take a letter at all
            if (anyHasLetters(having)) {
                int up = having & ~downBits(having);
                int moved = 0;
                for (int k = 0; k < kiteCount; k++) {
                    if ((up >> k & 1) != 0) {
                        moved |= takenBy(k, moved);
                    }
                }
            }
            time++;
        }

        private boolean anyHasLetters(int bits) {
            for (int k = 0; k < kiteCount && bits != 0; k++) {
                Kite kite = kiteAt(k);
                if (kite != null && (bits >> k & 1) != 0 && lettersOn(kite.home) != 0) {
                    return true;
                }
            }
            return false;
        }

        /** A kite takes letters of its home, but those moved already: which it took. */
        private int takenBy(int k, int moved) {
            Kite kite = kiteAt(k);
            int aim = aimOf(k);
            int taken = 0;
            int load = 0;
            for (int l = 0; l < letterCount && kite != null; l++) {
                if ((moved >> l & 1) != 0 || !waitsOn(l, kite.home)) {
                    continue;
                }
                int withIt = load + ofOne(l, WEIGHT);
                if (standsAt(kite, aim, withIt, time)) {
                    load = withIt;
                    taken |= 1 << l;
                    bring(l, aim);
                }
            }
            return taken;
        }

        private void bring(int letter, int hill) {
            change(letter, ON, hill);
            if (ofOne(letter, TO) == hill) {
                int arrival = time + 1;
                change(letter, ARRIVED, arrival);
                arrivals.add(letter);
                int hours = arrival - ofOne(letter, WRITTEN);
                int pay = paying.givenBy(hours, ofOne(letter, WEIGHT), 0, 0);
                paid = Math.min(MOST_PAID, paid + pay);
            }
        }

        // ways

        /** The fewest hours, up to a limit, in which a weight comes from hill to hill; or -1. */
        int fewestHours(int from, int to, int weight, int limit) {
            int reached = 1 << from;
            int idle = 0;
            // a day that brings no new hill is followed by none that does: the wind comes again
            // each day, and a kite only grows weaker by days
            for (int i = 0; i < limit && idle < DAY; i++) {
                int next = reachedBehind(reached, weight, time + i);
                if ((next >> to & 1) != 0) {
                    return i + 1;
                }
                idle = next == reached ? idle + 1 : 0;
                reached = next;
            }
            return -1;
        }

        private int reachedBehind(int reached, int weight, int when) {
            int next = reached;
            for (int k = 0; k < kiteCount; k++) {
                Kite kite = kiteAt(k);
                if (kite == null || (reached >> kite.home & 1) == 0) {
                    continue;
                }
                for (int h = 0; h < hillCount; h++) {
                    if ((next >> h & 1) == 0 && standsAt(kite, h, weight, when)) {
                        next |= 1 << h;
                    }
                }
            }
            return next;
        }

        // the order of arrivals

        int firstBeforeQuestion() {
            int seen = 0;
            for (int i = 0; i < arrivals.size; i++) {
                int letter = arrivals.get(i);
                int question = ofOne(letter, ANSWER);
                if (question >= 0 && (seen >> question & 1) == 0) {
                    return letter;
                }
                seen |= 1 << letter;
            }
            return -1;
        }

        int mendedAt(int i) {
            int taken = 0;
            int letter = -1;
            for (int step = 0; step <= i && step < arrivals.size; step++) {
                letter = firstThatCanBe(taken);
                if (letter >= 0) {
                    taken |= 1 << letter;
                }
            }
            return letter;
        }

        private int firstThatCanBe(int taken) {
            for (int i = 0; i < arrivals.size; i++) {
                int letter = arrivals.get(i);
                int question = ofOne(letter, ANSWER);
                boolean free = question < 0 || ofOne(question, ARRIVED) < 0
                        || (taken >> question & 1) != 0;
                if (free && (taken >> letter & 1) == 0) {
                    return letter;
                }
            }
            return -1;
        }
    }
}
