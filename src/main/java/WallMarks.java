import java.util.Arrays;

/** Marks on a wall: what is known of the greatest waters of sixty years, and what follows from it. */
public final class WallMarks {
    public static final int NONE = -1, BAD = -2, NOT = -3, FULL = -4;

    private static final int LEAST_INT = -2147483648;
    private static final long LEAST_LONG = -9223372036854775808L;

    private static final int YEARS = 60;
    private static final int TOP_LEVEL = 999;
    private static final int TOP_TIME = 999;
    private static final int MOST_TELLINGS = 120;
    private static final int MOST_WATCHES = 6;

    // The kinds of a TELLING bear the same numbers as what is KNOWN by it.
    private static final int EXACT = 0, BELOW = 1, OPEN = 2;

    private static final int AS_OF = 0, FROM = 1, TO = 2, PRICE = 3, HARM = 4, SPAN = 5;
    private static final int SETTINGS = 6;
    private static final int[] FIRST_SETTINGS = {999, 0, 59, 1, 500, 50};
    private static final int[] LEAST_SETTINGS = {0, 0, 0, 0, 0, 1};
    private static final int[] GREATEST_SETTINGS = {999, 59, 59, 99, 9999, 99};

    private static final int MOST_AGAIN = 15;
    private static final int MOST_NEXT = 20;
    private static final int MOST_BETWEEN = 15;
    private static final int MOST_SHOULD = 12;
    private static final int MOST_LIKELY = 14;
    private static final int SIXTEENTHS = 16;
    private static final long MILLION = 1000000L;

    private static final int SHEETS = 4;
    private static final int MOST_ITEMS = 60;
    private static final int BYTES = 0, SHORTS = 1, INTS = 2;
    private static final int NULL = 1, INDEX = 2, CAST = 3, STORE = 4, SIZE = 5;

    private static final int MOST_BYTES = 60;
    private static final int MOST_PAIRS = 6;
    private static final int MOST_FIGURES = 3;

    private final Tellings tellings;
    private final Watches watches;
    private final Known knowledge;
    private final Counted counted;
    private final int[] settings;
    private final int[] sisterLevels;
    private final Flows flows;
    private final Sheet[] sheets;
    private final long[] orders;
    private int finding;

    public WallMarks() {
        tellings = new Tellings();
        watches = new Watches();
        knowledge = new Known();
        counted = new Counted();
        settings = FIRST_SETTINGS.clone();
        sisterLevels = new int[YEARS];
        Arrays.fill(sisterLevels, NONE);
        flows = new Flows();
        sheets = new Sheet[SHEETS];
        for (int s = 0; s < SHEETS; s++) {
            sheets[s] = new Sheet();
        }
        orders = new long[MOST_SHOULD + 1];
        finding = 0;
        settle();
    }

    // ---- what is told

    public int tell(int year, int kind, int v, int time) {
        if (!isYear(year) || !mayBeTold(kind, v) || !isTimeToTell(time)) {
            return BAD;
        }
        if (!tellings.hasRoom()) {
            return FULL;
        }
        tellings.add(year, kind, v, time);
        settle();
        return tellings.size;
    }

    public int read(int s, int year, int time) {
        if (!isSheet(s) || !isYear(year) || !isTimeToTell(time)) {
            return BAD;
        }
        Sheet sheet = sheets[s];
        if (sheet.lost) {
            return found(NULL);
        }
        int came = 0;
        while (came < sheet.size && year + came < YEARS && tellings.hasRoom()
                && isLevel(sheet.itemAt(came))) {
            tellings.add(year + came, EXACT, sheet.itemAt(came), time);
            came++;
        }
        settle();
        return came;
    }

    public int watch(int from, int to, int level) {
        if (!isYear(from) || !isYear(to) || to < from || !isLevel(level) || level == 0) {
            return BAD;
        }
        if (!watches.hasRoom()) {
            return FULL;
        }
        watches.add(from, to, level);
        settle();
        return watches.size - 1;
    }

    public int set(int what, int v) {
        if (what < 0 || what >= SETTINGS || v < LEAST_SETTINGS[what] || v > GREATEST_SETTINGS[what]) {
            return BAD;
        }
        int before = settings[what];
        settings[what] = v;
        settle();
        return before;
    }

    public int known(int year, int what) {
        if (!isYear(year) || !isEither(what)) {
            return BAD;
        }
        return what == 0 ? knowledge.kinds[year] : knowledge.levels[year];
    }

    // ---- how rare

    public int over(int level, int what) {
        if (!isLevel(level) || what < 0 || what > 2) {
            return BAD;
        }
        if (what == 0) {
            return counted.overs(level);
        }
        return what == 1 ? counted.unders(level) : counted.darks(level);
    }

    public long rare(int level, int which, int what) {
        if (!isLevel(level) || which < 0 || which > 3 || !isEither(what)) {
            return longRefusal(BAD);
        }
        int overs = counted.overs(level);
        switch (which) {
            case 0:
                return fraction(overs, counted.rareBelow(level), what);
            case 1:
                return fraction(overs, counted.all() + 1, what);
            case 2:
                return fraction(overs + counted.darks(level), counted.all() + 1, what);
            default:
                return overs == 0 ? longRefusal(NOT) : fraction(counted.rareBelow(level), overs, what);
        }
    }

    public int soRare(int p) {
        if (!isHundredths(p)) {
            return BAD;
        }
        int greatest = NONE;
        for (int i = 0; i < counted.exacts; i++) {
            int level = counted.exactLevels[i];
            if (level > greatest && 100 * counted.overs(level) >= p * counted.rareBelow(level)) {
                greatest = level;
            }
        }
        return greatest;
    }

    public int rank(int year) {
        if (!isYear(year)) {
            return BAD;
        }
        if (!counts(year) || knowledge.kinds[year] != EXACT) {
            return NOT;
        }
        return 1 + counted.overs(knowledge.levels[year] + 1);
    }

    // ---- chances

    public long again(int n, int a, int k, int what) {
        if (n < 1 || n > MOST_AGAIN || !isSixteenths(a) || k < 0 || k > MOST_AGAIN || !isEither(what)) {
            return longRefusal(BAD);
        }
        return fraction(timesOver(n, a, k, n + 1), power(SIXTEENTHS, n), what);
    }

    public int lasts(int a, int x) {
        if (!isSixteenths(a) || x < 0 || x > 256) {
            return BAD;
        }
        int most = 0;
        for (int n = 1; n <= MOST_AGAIN; n++) {
            if (staysWithin(n, a, x)) {
                most = n;
            }
        }
        return most;
    }

    public long next(int m, int s, int k, int what) {
        if (m < 1 || m > MOST_NEXT || s < 1 || s > YEARS || k < 0 || k > m || !isEither(what)) {
            return longRefusal(BAD);
        }
        int n = counted.exacts;
        if (n < s) {
            return longRefusal(NOT);
        }
        if (n > MOST_NEXT) {
            return longRefusal(FULL);
        }
        long above = choices(s - 1 + k, k) * choices(n - s + m - k, m - k);
        return fraction(above, choices(n + m, m), what);
    }

    public long between(int a, int i, int j, int what) {
        if (!isSixteenths(a) || i < 1 || i > YEARS || j <= i || j > YEARS || !isEither(what)) {
            return longRefusal(BAD);
        }
        int n = counted.exacts;
        if (n < j) {
            return longRefusal(NOT);
        }
        if (n > MOST_BETWEEN) {
            return longRefusal(FULL);
        }
        return fraction(timesOver(n, a, i, j), power(SIXTEENTHS, n), what);
    }

    // ---- records, changes

    public int records(int what) {
        if (what < 0 || what > 3) {
            return BAD;
        }
        if (what == 3) {
            return counted.exacts > MOST_SHOULD ? FULL : should();
        }
        if (what == 0) {
            return counted.records;
        }
        return what == 1 ? counted.lastRecord : counted.longestWait;
    }

    public int rises() {
        int sum = 0;
        for (int later = 1; later < counted.exacts; later++) {
            for (int earlier = 0; earlier < later; earlier++) {
                sum += direction(counted.exactLevels[earlier], counted.exactLevels[later]);
            }
        }
        return sum;
    }

    public long change(int year, int what) {
        if (!isYear(year) || !isEither(what)) {
            return longRefusal(BAD);
        }
        long below = counted.meansBelow(year);
        if (below == 0) {
            return longRefusal(NOT);
        }
        return fraction(counted.meansAbove(year), below, what);
    }

    public int changed(int what) {
        if (!isEither(what)) {
            return BAD;
        }
        int year = greatestChange();
        if (what == 0) {
            return year;
        }
        if (year == NONE) {
            return NOT;
        }
        return counted.exacts > MOST_LIKELY ? FULL : howLikely(year);
    }

    // ---- sister, flows

    public int sister(int year, int v) {
        if (!isYear(year) || v != NONE && !isLevel(v)) {
            return -3 + BAD;
        }
        int before = sisterLevels[year];
        sisterLevels[year] = v;
        return before;
    }

    public int common(int what) {
        if (!isEither(what)) {
            return -10000 + BAD;
        }
        return what == 0 ? commonYears() : ties();
    }

    public int filled(int year, int what) {
        if (!isYear(year) || what < 0 || what > 2) {
            return BAD;
        }
        int level = sisterLevels[year];
        if (knowledge.kinds[year] == EXACT || level == NONE) {
            return NOT;
        }
        return what == 0 ? filledBySums(level) : filledByOne(level, what == 1);
    }

    public int type(int b) {
        if (b < 0 || b > 255) {
            return BAD;
        }
        if (!flows.hasRoom()) {
            return FULL;
        }
        flows.add(b);
        return flows.size;
    }

    public int wipe() {
        int had = flows.size;
        flows.size = 0;
        return had;
    }

    public int fault() {
        return flows.parse();
    }

    public long flow(int level, int what) {
        if (!isLevel(level) || !isEither(what)) {
            return longRefusal(BAD);
        }
        if (flows.parse() != NONE) {
            return longRefusal(NOT);
        }
        int pair = flows.pairBeside(level);
        return fraction(flows.lineAbove(pair, level), flows.lineBelow(pair), what);
    }

    // ---- dykes

    public long dyke(int h, int what) {
        if (!isLevel(h) || !isEither(what)) {
            return longRefusal(BAD);
        }
        return fraction(dykeAbove(h), counted.rareBelow(h), what);
    }

    public int best() {
        int best = 0;
        for (int i = 0; i < counted.steps(); i++) {
            int h = counted.stepAt(i);
            if (h <= TOP_LEVEL && isBetter(h, best)) {
                best = h;
            }
        }
        return best;
    }

    public int sure(int p) {
        if (!isHundredths(p)) {
            return BAD;
        }
        int least = isSure(0, p) ? 0 : NONE;
        for (int i = 0; i < counted.steps(); i++) {
            int h = counted.stepAt(i);
            if (h <= TOP_LEVEL && (least == NONE || h < least) && isSure(h, p)) {
                least = h;
            }
        }
        return least;
    }

    // ---- sheets

    public int sheet(int s, int form, int n) {
        if (!isSheet(s) || !isForm(form) || n > MOST_ITEMS) {
            return BAD;
        }
        if (n < 0) {
            return found(SIZE);
        }
        sheets[s].renew(form, n);
        return n;
    }

    public int lose(int s) {
        if (!isSheet(s)) {
            return BAD;
        }
        Sheet sheet = sheets[s];
        if (sheet.lost) {
            return found(NULL);
        }
        sheet.lost = true;
        return sheet.size;
    }

    public int lay(int s, int form, int i, int v) {
        if (!isSheet(s) || !isForm(form)) {
            return BAD;
        }
        int fit = findingAt(sheets[s], form, i);
        if (fit != 0) {
            return found(fit);
        }
        sheets[s].put(i, v);
        return 1;
    }

    public int get(int s, int form, int i) {
        if (!isSheet(s) || !isForm(form)) {
            return LEAST_INT;
        }
        int fit = findingAt(sheets[s], form, i);
        if (fit != 0) {
            found(fit);
            return LEAST_INT;
        }
        return sheets[s].itemAt(i);
    }

    public int copy(int s, int i, int t, int j, int n) {
        if (!isSheet(s) || !isSheet(t)) {
            return BAD;
        }
        Sheet source = sheets[s];
        Sheet target = sheets[t];
        if (source.lost || target.lost) {
            return found(NULL);
        }
        if (source.form != target.form) {
            return found(STORE);
        }
        if (!source.holds(i, n) || !target.holds(j, n)) {
            return found(INDEX);
        }
        System.arraycopy(source.items, i, target.items, j, n);
        return 1;
    }

    public int write(int year, int s) {
        if (!isYear(year) || !isSheet(s)) {
            return BAD;
        }
        Sheet sheet = sheets[s];
        if (sheet.lost) {
            return found(NULL);
        }
        int came = Math.min(sheet.size, YEARS - year);
        for (int i = 0; i < came; i++) {
            boolean exact = knowledge.kinds[year + i] == EXACT;
            sheet.put(i, exact ? knowledge.levels[year + i] : NONE);
        }
        return came;
    }

    public int count(int what) {
        switch (what) {
            case 0:
                return tellings.size;
            case 1:
                return watches.size;
            case 2:
                return counted.exacts;
            case 3:
                return counted.belows;
            case 4:
                return counted.opens;
            case 5:
                return counted.greatestExact;
            case 6:
                return sisterYears();
            case 7:
                return flows.size;
            case 8:
                return finding;
            default:
                return BAD;
        }
    }

    public long digest() {
        long h = 17;
        for (int what = 0; what <= 7; what++) {
            h = mixed(h, count(what));
        }
        for (int year = 0; year < YEARS; year++) {
            h = mixed(h, known(year, 0));
            h = mixed(h, known(year, 1));
            h = mixed(h, filled(year, 0));
        }
        for (int level = 100; level <= 500; level += 200) {
            for (int what = 0; what <= 2; what++) {
                h = mixed(h, over(level, what));
            }
            h = mixed(h, rare(level, 0, 0));
            h = mixed(h, rare(level, 0, 1));
        }
        h = mixed(h, soRare(10));
        for (int what = 0; what <= 2; what++) {
            h = mixed(h, records(what));
        }
        h = mixed(h, rises());
        h = mixed(h, changed(0));
        h = mixed(h, common(0));
        h = mixed(h, common(1));
        h = mixed(h, fault());
        h = mixed(h, best());
        return mixed(h, sure(20));
    }

    // ---- what a number may be

    private static boolean isYear(int year) {
        return year >= 0 && year < YEARS;
    }

    private static boolean isLevel(int level) {
        return level >= 0 && level <= TOP_LEVEL;
    }

    private static boolean isEither(int what) {
        return what == 0 || what == 1;
    }

    private static boolean isHundredths(int p) {
        return p >= 0 && p <= 100;
    }

    private static boolean isSixteenths(int a) {
        return a >= 0 && a <= SIXTEENTHS;
    }

    private static boolean isSheet(int s) {
        return s >= 0 && s < SHEETS;
    }

    private static boolean isForm(int form) {
        return form >= BYTES && form <= INTS;
    }

    private static boolean mayBeTold(int kind, int v) {
        if (kind == EXACT) {
            return isLevel(v);
        }
        if (kind == BELOW) {
            return isLevel(v) && v > 0;
        }
        return kind == OPEN;
    }

    private boolean isTimeToTell(int time) {
        return time >= tellings.lastTime && time <= TOP_TIME;
    }

    private boolean counts(int year) {
        return year >= settings[FROM] && year <= settings[TO];
    }

    // ---- refusals

    private static long longRefusal(int refusal) {
        return LEAST_LONG - refusal;
    }

    private int found(int number) {
        finding = number;
        return -10 - number;
    }

    /** The FINDING that an item of a FORM meets, in the order that the document tells; 0 if it is there. */
    private static int findingAt(Sheet sheet, int form, int i) {
        if (sheet.lost) {
            return NULL;
        }
        if (sheet.form != form) {
            return CAST;
        }
        return sheet.holds(i, 1) ? 0 : INDEX;
    }

    // ---- what is known

    /** All answers look at what is settled here: it is due after each change of what is told or set. */
    private void settle() {
        knowledge.forget();
        for (int i = 0; i < tellings.size; i++) {
            if (tellings.times[i] <= settings[AS_OF]) {
                knowledge.put(tellings.years[i], tellings.kinds[i], tellings.levels[i]);
            }
        }
        for (int year = 0; year < YEARS; year++) {
            int least = watches.leastAt(year);
            if (knowledge.kinds[year] == OPEN && least != NONE) {
                knowledge.put(year, BELOW, least);
            }
        }
        counted.gather(knowledge, settings[FROM], settings[TO]);
    }

    // ---- numbers

    /** Above (what = 0) or below (1) of a fraction in lowest terms. */
    private static long fraction(long above, long below, int what) {
        long divisor = commonDivisor(Math.abs(above), below);
        if (divisor == 0) {
            return what;
        }
        return what == 0 ? above / divisor : below / divisor;
    }

    /** Euclid's steps for numbers below 2^62 stay under ninety: the bound is never met. */
    private static long commonDivisor(long a, long b) {
        long greater = a;
        long lesser = b;
        for (int step = 0; step < 1000 && lesser != 0; step++) {
            long rest = greater % lesser;
            greater = lesser;
            lesser = rest;
        }
        return greater;
    }

    private static long power(long base, int exponent) {
        long product = 1;
        for (int i = 0; i < exponent; i++) {
            product *= base;
        }
        return product;
    }

    /** How many choices of k out of n there are; each step's product holds its divisor. */
    private static long choices(int n, int k) {
        long product = 1;
        for (int i = 1; i <= k; i++) {
            product = product * (n - k + i) / i;
        }
        return product;
    }

    private static int direction(int from, int to) {
        if (to == from) {
            return 0;
        }
        return to > from ? 1 : -1;
    }

    private static long mixed(long h, long x) {
        return 31 * h + x;
    }

    // ---- chances, in parts of 16 to the n

    /** In how many of 16^n cases least or more, but fewer than end, of n YEARS go over. */
    private static long timesOver(int n, int a, int least, int end) {
        long sum = 0;
        for (int k = least; k < end && k <= n; k++) {
            sum += choices(n, k) * power(a, k) * power(SIXTEENTHS - a, n - k);
        }
        return sum;
    }

    /** 256 times 16^15 is more than a long holds: both sides are held against each other in 256ths of 16^n. */
    private static boolean staysWithin(int n, int a, int x) {
        long gone = power(SIXTEENTHS, n) - power(SIXTEENTHS - a, n);
        if (n < 2) {
            return gone * SIXTEENTHS <= x;
        }
        return gone <= x * power(SIXTEENTHS, n - 2);
    }

    // ---- records, changes

    private int should() {
        int n = counted.exacts;
        orderByRecords(n);
        long asMany = 0;
        long all = 0;
        for (int records = 0; records <= n && records < orders.length; records++) {
            all += orders[records];
            if (records >= counted.records) {
                asMany += orders[records];
            }
        }
        return all == 0 ? 0 : (int) (asMany * MILLION / all);
    }

    /** Of n, the newest is a RECORD in one of n places that it may have among the older ones, in n - 1 it is none. */
    private void orderByRecords(int most) {
        Arrays.fill(orders, 0);
        orders[0] = 1;
        for (int n = 1; n <= most && n < orders.length; n++) {
            for (int records = n; records > 0; records--) {
                orders[records] = orders[records - 1] + (n - 1) * orders[records];
            }
            orders[0] = 0;
        }
    }

    private int greatestChange() {
        int best = NONE;
        long bestAbove = 0;
        long bestBelow = 1;
        for (int year = 0; year < YEARS; year++) {
            long below = counted.meansBelow(year);
            long above = Math.abs(counted.meansAbove(year));
            if (below != 0 && (best == NONE || above * bestBelow > bestAbove * below)) {
                best = year;
                bestAbove = above;
                bestBelow = below;
            }
        }
        return best;
    }

    private int howLikely(int year) {
        int taken = counted.exactsAhead(year);
        long far = Math.abs(counted.meansAbove(year));
        long all = choices(counted.exacts, taken);
        return all == 0 ? 0 : (int) (farChoices(counted, 0, taken, 0, taken, far) * MILLION / all);
    }

    /** Choices of so many as are left out of the EXACT ones from one on whose MEANS differ as far; at most 14 deep. */
    private static long farChoices(Counted among, int at, int left, int sum, int taken, long far) {
        if (left == 0) {
            return Math.abs(among.meansApart(taken, sum)) >= far ? 1 : 0;
        }
        if (at >= MOST_LIKELY || at + left > among.exacts) {
            return 0;
        }
        return farChoices(among, at + 1, left - 1, sum + among.exactLevels[at], taken, far)
                + farChoices(among, at + 1, left, sum, taken, far);
    }

    // ---- sister

    private int sisterYears() {
        int years = 0;
        for (int year = 0; year < YEARS; year++) {
            if (sisterLevels[year] != NONE) {
                years++;
            }
        }
        return years;
    }

    private int sisterOf(int exact) {
        return sisterLevels[counted.exactYears[exact]];
    }

    private int commonYears() {
        int years = 0;
        for (int i = 0; i < counted.exacts; i++) {
            if (sisterOf(i) != NONE) {
                years++;
            }
        }
        return years;
    }

    private int ties() {
        int sum = 0;
        for (int later = 1; later < counted.exacts; later++) {
            for (int earlier = 0; earlier < later; earlier++) {
                sum += tie(earlier, later);
            }
        }
        return sum;
    }

    private int tie(int earlier, int later) {
        if (sisterOf(earlier) == NONE || sisterOf(later) == NONE) {
            return 0;
        }
        return direction(counted.exactLevels[earlier], counted.exactLevels[later])
                * direction(sisterOf(earlier), sisterOf(later));
    }

    private int filledBySums(int level) {
        int own = 0;
        int sisters = 0;
        for (int i = 0; i < counted.exacts; i++) {
            if (sisterOf(i) != NONE) {
                own += counted.exactLevels[i];
                sisters += sisterOf(i);
            }
        }
        return sisters == 0 ? NOT : level * own / sisters;
    }

    /** Cutting keeps the order of what is cut, so the least of the cut ones is the least one, cut. */
    private int filledByOne(int level, boolean least) {
        int best = NOT;
        for (int i = 0; i < counted.exacts; i++) {
            int sister = sisterOf(i);
            if (sister > 0) {
                int value = level * counted.exactLevels[i] / sister;
                if (best == NOT || (least ? value < best : value > best)) {
                    best = value;
                }
            }
        }
        return best;
    }

    // ---- dykes

    private long dykeAbove(int h) {
        long height = (long) settings[PRICE] * h * counted.rareBelow(h);
        return height + (long) settings[HARM] * settings[SPAN] * counted.overs(h);
    }

    private boolean isBetter(int h, int than) {
        long cost = dykeAbove(h) * counted.rareBelow(than);
        long other = dykeAbove(than) * counted.rareBelow(h);
        return cost < other || cost == other && h < than;
    }

    private boolean isSure(int h, int p) {
        int maybeOver = counted.overs(h) + counted.darks(h);
        return 100 * maybeOver <= p * (counted.all() + 1);
    }

    /** All TELLINGS in the order in which they came. */
    private static final class Tellings {
        final int[] years = new int[MOST_TELLINGS];
        final int[] kinds = new int[MOST_TELLINGS];
        final int[] levels = new int[MOST_TELLINGS];
        final int[] times = new int[MOST_TELLINGS];
        int size = 0;
        int lastTime = 0;

        boolean hasRoom() {
            return size < MOST_TELLINGS;
        }

        void add(int year, int kind, int level, int time) {
            if (hasRoom()) {
                years[size] = year;
                kinds[size] = kind;
                levels[size] = level;
                times[size] = time;
                size++;
                lastTime = time;
            }
        }
    }

    private static final class Watches {
        final int[] froms = new int[MOST_WATCHES];
        final int[] tos = new int[MOST_WATCHES];
        final int[] levels = new int[MOST_WATCHES];
        int size = 0;

        boolean hasRoom() {
            return size < MOST_WATCHES;
        }

        void add(int from, int to, int level) {
            if (hasRoom()) {
                froms[size] = from;
                tos[size] = to;
                levels[size] = level;
                size++;
            }
        }

        int leastAt(int year) {
            int least = NONE;
            for (int i = 0; i < size; i++) {
                boolean within = froms[i] <= year && year <= tos[i];
                if (within && (least == NONE || levels[i] < least)) {
                    least = levels[i];
                }
            }
            return least;
        }
    }

    /** What is KNOWN of each YEAR, whether it counts or not. */
    private static final class Known {
        final int[] kinds = new int[YEARS];
        final int[] levels = new int[YEARS];

        void forget() {
            Arrays.fill(kinds, OPEN);
            Arrays.fill(levels, NONE);
        }

        void put(int year, int kind, int level) {
            if (isYear(year)) {
                kinds[year] = kind;
                levels[year] = kind == OPEN ? NONE : level;
            }
        }
    }

    /** The YEARS that count: the EXACT ones year by year, the LEVELS that others are BELOW, how many are OPEN. */
    private static final class Counted {
        final int[] exactYears = new int[YEARS];
        final int[] exactLevels = new int[YEARS];
        final int[] belowLevels = new int[YEARS];
        int exacts = 0;
        int belows = 0;
        int opens = 0;
        int exactSum = 0;
        int greatestExact = NONE;
        int records = 0;
        int lastRecord = NONE;
        int longestWait = 0;

        void gather(Known knowledge, int from, int to) {
            exacts = 0;
            belows = 0;
            opens = 0;
            exactSum = 0;
            greatestExact = NONE;
            records = 0;
            lastRecord = NONE;
            longestWait = 0;
            for (int year = 0; year < YEARS; year++) {
                if (from <= year && year <= to) {
                    add(year, knowledge.kinds[year], knowledge.levels[year]);
                }
            }
        }

        private void add(int year, int kind, int level) {
            if (kind == EXACT && exacts < YEARS) {
                exactYears[exacts] = year;
                exactLevels[exacts] = level;
                exactSum += level;
                exacts++;
                holdAgainstRecord(year, level);
            } else if (kind == BELOW && belows < YEARS) {
                belowLevels[belows] = level;
                belows++;
            } else {
                opens++;
            }
        }

        /** YEARS are added in their order, so a RECORD is one that is greater than all that were added. */
        private void holdAgainstRecord(int year, int level) {
            if (level > greatestExact) {
                longestWait = lastRecord == NONE ? 0 : Math.max(longestWait, year - lastRecord);
                lastRecord = year;
                greatestExact = level;
                records++;
            }
        }

        int all() {
            return exacts + belows + opens;
        }

        int overs(int level) {
            int years = 0;
            for (int i = 0; i < exacts; i++) {
                if (exactLevels[i] >= level) {
                    years++;
                }
            }
            return years;
        }

        private int belowsUnder(int level) {
            int years = 0;
            for (int i = 0; i < belows; i++) {
                if (belowLevels[i] <= level) {
                    years++;
                }
            }
            return years;
        }

        int unders(int level) {
            return exacts - overs(level) + belowsUnder(level);
        }

        int darks(int level) {
            return opens + belows - belowsUnder(level);
        }

        /** OVER, UNDER and 1: each EXACT YEAR is one of both, so they need not be told apart. */
        int rareBelow(int level) {
            return exacts + belowsUnder(level) + 1;
        }

        /** OVER and UNDER are the same from one step up to the next, so the least of a kind is 0 or a step. */
        int steps() {
            return exacts + belows;
        }

        int stepAt(int i) {
            if (i < 0 || i >= steps()) {
                return 0;
            }
            return i < exacts ? exactLevels[i] + 1 : belowLevels[i - exacts];
        }

        int exactsAhead(int year) {
            int ahead = 0;
            for (int i = 0; i < exacts; i++) {
                if (exactYears[i] < year) {
                    ahead++;
                }
            }
            return ahead;
        }

        private int sumAhead(int year) {
            int sum = 0;
            for (int i = 0; i < exacts; i++) {
                if (exactYears[i] < year) {
                    sum += exactLevels[i];
                }
            }
            return sum;
        }

        /** What two MEANS differ by is told in parts of the product of how many stand on each side. */
        long meansBelow(int year) {
            int ahead = exactsAhead(year);
            return (long) ahead * (exacts - ahead);
        }

        long meansAbove(int year) {
            return meansApart(exactsAhead(year), sumAhead(year));
        }

        long meansApart(int taken, int sum) {
            return (long) taken * (exactSum - sum) - (long) (exacts - taken) * sum;
        }
    }

    /** The text of FLOWS, and the pairs that its latest parse came to. */
    private static final class Flows {
        final int[] bytes = new int[MOST_BYTES];
        final int[] levels = new int[MOST_PAIRS];
        final int[] amounts = new int[MOST_PAIRS];
        int size = 0;
        private int pairs = 0;
        private int place = 0;

        boolean hasRoom() {
            return size < MOST_BYTES;
        }

        void add(int b) {
            if (hasRoom()) {
                bytes[size] = b;
                size++;
            }
        }

        /** The place of the FAULT; NONE. */
        int parse() {
            place = 0;
            for (pairs = 0; pairs < MOST_PAIRS; pairs++) {
                if (pairs >= 2 && place == size) {
                    return NONE;
                }
                if (pairs > 0 && !passes(';')) {
                    return place;
                }
                int wrong = parsePair();
                if (wrong != NONE) {
                    return wrong;
                }
            }
            return place == size ? NONE : place;
        }

        private int parsePair() {
            int start = place;
            int level = parseNumber();
            if (level == NONE || pairs > 0 && level <= levels[pairs - 1]) {
                return start;
            }
            if (!passes(':')) {
                return place;
            }
            start = place;
            int amount = parseNumber();
            if (amount == NONE || pairs > 0 && amount < amounts[pairs - 1]) {
                return start;
            }
            levels[pairs] = level;
            amounts[pairs] = amount;
            return NONE;
        }

        private boolean passes(char sign) {
            if (place >= size || bytes[place] != sign) {
                return false;
            }
            place++;
            return true;
        }

        /** NONE if there is no figure. */
        private int parseNumber() {
            int number = NONE;
            for (int figures = 0; figures < MOST_FIGURES && isFigure(); figures++) {
                number = Math.max(number, 0) * 10 + bytes[place] - '0';
                place++;
            }
            return number;
        }

        private boolean isFigure() {
            return place < size && bytes[place] >= '0' && bytes[place] <= '9';
        }

        /** The earlier one of the two pairs by whose line a LEVEL's FLOW is told. */
        int pairBeside(int level) {
            int pair = 0;
            while (pair + 2 < pairs && level > levels[pair + 1]) {
                pair++;
            }
            return pair;
        }

        long lineBelow(int pair) {
            return (long) levels[pair + 1] - levels[pair];
        }

        long lineAbove(int pair, int level) {
            long rise = (long) (amounts[pair + 1] - amounts[pair]) * (level - levels[pair]);
            return Math.max(0, amounts[pair] * lineBelow(pair) + rise);
        }
    }

    /** A row of items of a FORM; its row of ints is used again by each new one. */
    private static final class Sheet {
        final int[] items = new int[MOST_ITEMS];
        boolean lost = true;
        int form = BYTES;
        int size = 0;

        void renew(int newForm, int n) {
            Arrays.fill(items, 0);
            lost = false;
            form = newForm;
            size = n;
        }

        boolean holds(int i, int n) {
            return i >= 0 && n >= 0 && n <= size && i <= size - n;
        }

        int itemAt(int i) {
            return holds(i, 1) ? items[i] : 0;
        }

        void put(int i, int v) {
            if (holds(i, 1)) {
                items[i] = narrowed(v);
            }
        }

        private int narrowed(int v) {
            if (form == BYTES) {
                return (byte) v;
            }
            return form == SHORTS ? (short) v : v;
        }
    }
}
