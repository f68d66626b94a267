import java.math.BigInteger;
import java.util.ArrayList;
import java.util.List;

/** The document done once more, as plainly as can be and by other ways, for WallMarks to be held against. */
final class PlainMarks {
    private static final BigInteger ZERO = BigInteger.ZERO, ONE = BigInteger.ONE;
    private static final BigInteger MILLION = BigInteger.valueOf(1000000);
    private static final int LEAST = Integer.MIN_VALUE;

    private final List<int[]> tellings = new ArrayList<>();
    private final List<int[]> watches = new ArrayList<>();
    private final int[] settings = {999, 0, 59, 1, 500, 50};
    private final Integer[] sisters = new Integer[60];
    private final StringBuilder flows = new StringBuilder();
    private final Object[] sheets = new Object[4];
    private int finding = 0;
    // What is KNOWN of all YEARS since the last change of what is told or set; null if it has to be looked up anew.
    private int[][] knownNow = null;

    private static boolean in(int x, int least, int greatest) {
        return least <= x && x <= greatest;
    }

    private int lastTime() {
        return tellings.isEmpty() ? 0 : tellings.get(tellings.size() - 1)[3];
    }

    private int found(int number) {
        finding = number;
        return -10 - number;
    }

    int tell(int year, int kind, int v, int time) {
        boolean may = in(year, 0, 59) && in(kind, 0, 2) && in(time, lastTime(), 999)
            && (kind == 2 || in(v, kind, 999));
        if (!may) {
            return -2;
        }
        if (tellings.size() == 120) {
            return -4;
        }
        tellings.add(new int[] {year, kind, v, time});
        knownNow = null;
        return tellings.size();
    }

    int read(int s, int year, int time) {
        if (!in(s, 0, 3) || !in(year, 0, 59) || !in(time, lastTime(), 999)) {
            return -2;
        }
        if (sheets[s] == null) {
            return found(1);
        }
        for (int i = 0; i < size(s); i++) {
            if (tell(year + i, 0, item(s, i), time) < 0) {
                return i;
            }
        }
        return size(s);
    }

    int watch(int from, int to, int level) {
        if (!in(from, 0, 59) || !in(to, from, 59) || !in(level, 1, 999)) {
            return -2;
        }
        if (watches.size() == 6) {
            return -4;
        }
        watches.add(new int[] {from, to, level});
        knownNow = null;
        return watches.size() - 1;
    }

    int set(int what, int v) {
        int[] greatest = {999, 59, 59, 99, 9999, 99};
        if (!in(what, 0, 5) || !in(v, what == 5 ? 1 : 0, greatest[what])) {
            return -2;
        }
        int before = settings[what];
        settings[what] = v;
        knownNow = null;
        return before;
    }

    private int[] knownOf(int year) {
        if (knownNow == null) {
            int[][] looked = new int[60][];
            for (int y = 0; y < 60; y++) {
                looked[y] = lookedUp(y);
            }
            knownNow = looked;
        }
        return knownNow[year];
    }

    /** Kind and LEVEL. */
    private int[] lookedUp(int year) {
        for (int i = tellings.size() - 1; i >= 0; i--) {
            int[] t = tellings.get(i);
            if (t[0] == year && t[3] <= settings[0]) {
                if (t[1] == 2) {
                    break;
                }
                return new int[] {t[1], t[2]};
            }
        }
        int least = 1000;
        for (int[] w : watches) {
            if (in(year, w[0], w[1])) {
                least = Math.min(least, w[2]);
            }
        }
        return least == 1000 ? new int[] {2, -1} : new int[] {1, least};
    }

    int known(int year, int what) {
        return in(year, 0, 59) && in(what, 0, 1) ? knownOf(year)[what] : -2;
    }

    private boolean counts(int year) {
        return in(year, settings[1], settings[2]);
    }

    private List<Integer> exactYears() {
        List<Integer> years = new ArrayList<>();
        for (int year = 0; year < 60; year++) {
            if (counts(year) && knownOf(year)[0] == 0) {
                years.add(year);
            }
        }
        return years;
    }

    private int[] exact() {
        return exactYears().stream().mapToInt(year -> knownOf(year)[1]).toArray();
    }

    /** OVER, UNDER, DARK. */
    private int[] parted(int level) {
        int[] parts = new int[3];
        for (int year = 0; year < 60; year++) {
            if (counts(year)) {
                int[] k = knownOf(year);
                boolean over = k[0] == 0 && k[1] >= level;
                boolean under = k[0] == 0 && k[1] < level || k[0] == 1 && k[1] <= level;
                parts[over ? 0 : under ? 1 : 2]++;
            }
        }
        return parts;
    }

    int over(int level, int what) {
        return in(level, 0, 999) && in(what, 0, 2) ? parted(level)[what] : -2;
    }

    private static long part(BigInteger above, BigInteger below, int what) {
        BigInteger g = above.gcd(below);
        return (what == 0 ? above : below).divide(g).longValueExact();
    }

    private static long part(long above, long below, int what) {
        return part(BigInteger.valueOf(above), BigInteger.valueOf(below), what);
    }

    long rare(int level, int which, int what) {
        if (!in(level, 0, 999) || !in(which, 0, 3) || !in(what, 0, 1)) {
            return Due.BAD;
        }
        int[] p = parted(level);
        long[][] fractions = {
            {p[0], p[0] + p[1] + 1}, {p[0], p[0] + p[1] + p[2] + 1}, {p[0] + p[2], p[0] + p[1] + p[2] + 1},
            {p[0] + p[1] + 1, p[0]}};
        long[] f = fractions[which];
        return f[1] == 0 ? Due.NOT : part(f[0], f[1], what);
    }

    int soRare(int p) {
        if (!in(p, 0, 100)) {
            return -2;
        }
        for (int level = 999; level >= 0; level--) {
            int[] parts = parted(level);
            boolean some = parts[0] > 0 && (level == 999 || parted(level + 1)[0] < parts[0]);
            if (some && 100 * parts[0] >= p * (parts[0] + parts[1] + 1)) {
                return level;
            }
        }
        return -1;
    }

    int rank(int year) {
        if (!in(year, 0, 59)) {
            return -2;
        }
        if (!counts(year) || knownOf(year)[0] != 0) {
            return -3;
        }
        int rank = 1;
        for (int level : exact()) {
            rank += level > knownOf(year)[1] ? 1 : 0;
        }
        return rank;
    }

    /** Of 16^n cases those in which 0, 1, .. n go over: one YEAR comes after the other. */
    private static BigInteger[] spread(int n, int a) {
        BigInteger[] cases = new BigInteger[n + 2];
        java.util.Arrays.fill(cases, ZERO);
        cases[0] = ONE;
        for (int year = 0; year < n; year++) {
            for (int k = n; k >= 0; k--) {
                BigInteger dry = cases[k].multiply(BigInteger.valueOf(16 - a));
                BigInteger wet = k == 0 ? ZERO : cases[k - 1].multiply(BigInteger.valueOf(a));
                cases[k] = dry.add(wet);
            }
        }
        return cases;
    }

    private static long spreadPart(int n, int a, int from, int end, int what) {
        BigInteger[] cases = spread(n, a);
        BigInteger sum = ZERO;
        for (int k = from; k < end && k <= n; k++) {
            sum = sum.add(cases[k]);
        }
        return part(sum, BigInteger.valueOf(16).pow(n), what);
    }

    long again(int n, int a, int k, int what) {
        if (!in(n, 1, 15) || !in(a, 0, 16) || !in(k, 0, 15) || !in(what, 0, 1)) {
            return Due.BAD;
        }
        return spreadPart(n, a, k, 99, what);
    }

    int lasts(int a, int x) {
        if (!in(a, 0, 16) || !in(x, 0, 256)) {
            return -2;
        }
        for (int n = 15; n > 0; n--) {
            BigInteger all = BigInteger.valueOf(16).pow(n);
            BigInteger some = all.subtract(spread(n, a)[0]);
            if (some.multiply(BigInteger.valueOf(256)).compareTo(all.multiply(BigInteger.valueOf(x))) <= 0) {
                return n;
            }
        }
        return 0;
    }

    /** Orders of so many old and new ones, from the greatest on, in which just k new ones stand ahead of the s-th old one. */
    private static BigInteger orders(int old, int fresh, int s, int k, BigInteger[][][] memo) {
        if (k < 0 || s == 0 && k > 0) {
            return ZERO;
        }
        if (old == 0 && fresh == 0) {
            return k == 0 ? ONE : ZERO;
        }
        if (memo[old][fresh][s] != null) {
            return memo[old][fresh][s];
        }
        BigInteger sum = ZERO;
        if (old > 0) {
            sum = sum.add(orders(old - 1, fresh, Math.max(0, s - 1), k, memo));
        }
        if (fresh > 0) {
            sum = sum.add(orders(old, fresh - 1, s, s > 0 ? k - 1 : k, memo));
        }
        memo[old][fresh][s] = sum;
        return sum;
    }

    /** What k still has to come follows from how many fresh ones are left, as long as the s-th is not met. */
    private static BigInteger orders(int old, int fresh, int s, int k) {
        return orders(old, fresh, s, k, new BigInteger[old + 1][fresh + 1][s + 1]);
    }

    long next(int m, int s, int k, int what) {
        if (!in(m, 1, 20) || !in(s, 1, 60) || !in(k, 0, m) || !in(what, 0, 1)) {
            return Due.BAD;
        }
        int n = exact().length;
        if (n < s) {
            return Due.NOT;
        }
        if (n > 20) {
            return Due.FULL;
        }
        BigInteger all = ZERO;
        for (int i = 0; i <= m; i++) {
            all = all.add(orders(n, m, s, i));
        }
        return part(orders(n, m, s, k), all, what);
    }

    long between(int a, int i, int j, int what) {
        if (!in(a, 0, 16) || !in(i, 1, 60) || !in(j, i + 1, 60) || !in(what, 0, 1)) {
            return Due.BAD;
        }
        int n = exact().length;
        if (n < j) {
            return Due.NOT;
        }
        return n > 15 ? Due.FULL : spreadPart(n, a, i, j, what);
    }

    private List<Integer> recordYears() {
        List<Integer> years = new ArrayList<>();
        for (int year : exactYears()) {
            boolean record = true;
            for (int ahead : exactYears()) {
                record &= ahead >= year || knownOf(ahead)[1] < knownOf(year)[1];
            }
            if (record) {
                years.add(year);
            }
        }
        return years;
    }

    /** Orders of n with r RECORDS: the greatest stands behind so many others, which alone can be RECORDS ahead of it. */
    private static BigInteger ordersWith(int n, int r) {
        if (n == 0 || r == 0) {
            return n == r ? ONE : ZERO;
        }
        BigInteger sum = ZERO;
        for (int ahead = 0; ahead < n; ahead++) {
            BigInteger ways = ordersWith(ahead, r - 1);
            for (int i = ahead + 1; i < n; i++) {
                ways = ways.multiply(BigInteger.valueOf(i));
            }
            sum = sum.add(ways);
        }
        return sum;
    }

    int records(int what) {
        if (!in(what, 0, 3)) {
            return -2;
        }
        List<Integer> years = recordYears();
        if (what == 0) {
            return years.size();
        }
        if (what == 1) {
            return years.isEmpty() ? -1 : years.get(years.size() - 1);
        }
        if (what == 2) {
            int most = 0;
            for (int i = 1; i < years.size(); i++) {
                most = Math.max(most, years.get(i) - years.get(i - 1));
            }
            return most;
        }
        int n = exact().length;
        if (n > 12) {
            return -4;
        }
        BigInteger as = ZERO;
        BigInteger all = ZERO;
        for (int r = 0; r <= n; r++) {
            BigInteger ways = ordersWith(n, r);
            all = all.add(ways);
            as = r >= years.size() ? as.add(ways) : as;
        }
        return as.multiply(MILLION).divide(all).intValueExact();
    }

    int rises() {
        int[] e = exact();
        int sum = 0;
        for (int i = 0; i < e.length; i++) {
            for (int j = i + 1; j < e.length; j++) {
                sum += Integer.signum(e[j] - e[i]);
            }
        }
        return sum;
    }

    /** Above and below; null if one side has none. */
    private long[] changeAt(int year) {
        long ahead = 0;
        long sumAhead = 0;
        long on = 0;
        long sumOn = 0;
        for (int y : exactYears()) {
            if (y < year) {
                ahead++;
                sumAhead += knownOf(y)[1];
            } else {
                on++;
                sumOn += knownOf(y)[1];
            }
        }
        return ahead == 0 || on == 0 ? null : new long[] {sumOn * ahead - sumAhead * on, on * ahead};
    }

    long change(int year, int what) {
        if (!in(year, 0, 59) || !in(what, 0, 1)) {
            return Due.BAD;
        }
        long[] c = changeAt(year);
        return c == null ? Due.NOT : part(c[0], c[1], what);
    }

    int changed(int what) {
        if (!in(what, 0, 1)) {
            return -2;
        }
        int best = -1;
        for (int year = 59; year >= 0; year--) {
            long[] c = changeAt(year);
            long[] b = best < 0 ? null : changeAt(best);
            if (c != null && (b == null || Math.abs(c[0]) * b[1] >= Math.abs(b[0]) * c[1])) {
                best = year;
            }
        }
        if (what == 0) {
            return best;
        }
        if (best < 0) {
            return -3;
        }
        return exact().length > 14 ? -4 : howLikely(best);
    }

    private int howLikely(int year) {
        int[] e = exact();
        int taken = (int) exactYears().stream().filter(y -> y < year).count();
        long[] c = changeAt(year);
        long far = 0;
        long all = 0;
        for (int mask = 0; mask < 1 << e.length; mask++) {
            if (Integer.bitCount(mask) == taken) {
                long in = 0;
                long out = 0;
                for (int i = 0; i < e.length; i++) {
                    if ((mask >> i & 1) == 1) {
                        in += e[i];
                    } else {
                        out += e[i];
                    }
                }
                all++;
                far += Math.abs(out * taken - in * (e.length - taken)) >= Math.abs(c[0]) ? 1 : 0;
            }
        }
        return (int) (far * 1000000 / all);
    }

    int sister(int year, int v) {
        if (!in(year, 0, 59) || !in(v, -1, 999)) {
            return -5;
        }
        Integer before = sisters[year];
        sisters[year] = v == -1 ? null : Integer.valueOf(v);
        return before == null ? -1 : before;
    }

    private List<Integer> commonYears() {
        List<Integer> years = exactYears();
        years.removeIf(year -> sisters[year] == null);
        return years;
    }

    int common(int what) {
        if (!in(what, 0, 1)) {
            return -10002;
        }
        List<Integer> years = commonYears();
        if (what == 0) {
            return years.size();
        }
        int sum = 0;
        for (int a : years) {
            for (int b : years) {
                if (a < b) {
                    sum += Integer.signum((knownOf(b)[1] - knownOf(a)[1]) * (sisters[b] - sisters[a]));
                }
            }
        }
        return sum;
    }

    int filled(int year, int what) {
        if (!in(year, 0, 59) || !in(what, 0, 2)) {
            return -2;
        }
        if (knownOf(year)[0] == 0 || sisters[year] == null) {
            return -3;
        }
        long own = 0;
        long other = 0;
        for (int y : commonYears()) {
            long o = knownOf(y)[1];
            long s = sisters[y];
            if (what == 0) {
                own += o;
                other += s;
            } else if (s > 0 && (other == 0 || (what == 1 ? o * other < own * s : o * other > own * s))) {
                own = o;
                other = s;
            }
        }
        return other == 0 ? -3 : (int) (sisters[year] * own / other);
    }

    int type(int b) {
        if (!in(b, 0, 255)) {
            return -2;
        }
        if (flows.length() == 60) {
            return -4;
        }
        flows.append((char) b);
        return flows.length();
    }

    int wipe() {
        int had = flows.length();
        flows.setLength(0);
        return had;
    }

    /** Sign by sign; a number is judged as soon as it ends; pairs come to the list as far as they may be. */
    private int faultOf(List<int[]> pairs) {
        String text = flows.toString();
        int start = 0;
        int level = -1;
        for (int i = 0; i <= text.length(); i++) {
            char c = i == text.length() ? 0 : text.charAt(i);
            if (i < text.length() && c >= '0' && c <= '9' && i - start < 3) {
                continue;
            }
            if (i == start) {
                return i;
            }
            int number = Integer.parseInt(text.substring(start, i));
            int[] ahead = pairs.isEmpty() ? new int[] {-1, -1} : pairs.get(pairs.size() - 1);
            if (level < 0) {
                if (number <= ahead[0]) {
                    return start;
                }
                if (i == text.length() || c != ':') {
                    return i;
                }
                level = number;
            } else {
                if (number < ahead[1]) {
                    return start;
                }
                pairs.add(new int[] {level, number});
                level = -1;
                if (i == text.length()) {
                    return pairs.size() == 1 ? i : -1;
                }
                if (c != ';' || pairs.size() == 6) {
                    return i;
                }
            }
            start = i + 1;
        }
        return text.length();
    }

    int fault() {
        return faultOf(new ArrayList<>());
    }

    long flow(int level, int what) {
        if (!in(level, 0, 999) || !in(what, 0, 1)) {
            return Due.BAD;
        }
        List<int[]> pairs = new ArrayList<>();
        if (faultOf(pairs) != -1) {
            return Due.NOT;
        }
        int i = 1;
        while (i < pairs.size() - 1 && pairs.get(i)[0] < level) {
            i++;
        }
        int[] p = pairs.get(i - 1);
        int[] q = pairs.get(i);
        long below = q[0] - p[0];
        long above = p[1] * (q[0] - (long) level) + q[1] * ((long) level - p[0]);
        return part(Math.max(above, 0), below, what);
    }

    private long[] cost(int h) {
        int[] p = parted(h);
        long below = p[0] + p[1] + 1;
        return new long[] {(long) settings[3] * h * below + (long) settings[4] * settings[5] * p[0], below};
    }

    long dyke(int h, int what) {
        if (!in(h, 0, 999) || !in(what, 0, 1)) {
            return Due.BAD;
        }
        long[] c = cost(h);
        return part(c[0], c[1], what);
    }

    int best() {
        int best = 0;
        long[] b = cost(0);
        for (int h = 1; h <= 999; h++) {
            long[] c = cost(h);
            if (c[0] * b[1] < b[0] * c[1]) {
                best = h;
                b = c;
            }
        }
        return best;
    }

    int sure(int p) {
        if (!in(p, 0, 100)) {
            return -2;
        }
        for (int h = 0; h <= 999; h++) {
            int[] parts = parted(h);
            if (100 * (parts[0] + parts[2]) <= p * (parts[0] + parts[1] + parts[2] + 1)) {
                return h;
            }
        }
        return -1;
    }

    private int formOf(int s) {
        return sheets[s] instanceof byte[] ? 0 : sheets[s] instanceof short[] ? 1 : 2;
    }

    private int size(int s) {
        return java.lang.reflect.Array.getLength(sheets[s]);
    }

    private int item(int s, int i) {
        return java.lang.reflect.Array.getInt(sheets[s], i);
    }

    private void put(int s, int i, int v) {
        if (sheets[s] instanceof byte[] b) {
            b[i] = (byte) v;
        } else if (sheets[s] instanceof short[] h) {
            h[i] = (short) v;
        } else if (sheets[s] instanceof int[] n) {
            n[i] = v;
        }
    }

    int sheet(int s, int form, int n) {
        if (!in(s, 0, 3) || !in(form, 0, 2) || n > 60) {
            return -2;
        }
        if (n < 0) {
            return found(5);
        }
        sheets[s] = form == 0 ? new byte[n] : form == 1 ? new short[n] : new int[n];
        return n;
    }

    int lose(int s) {
        if (!in(s, 0, 3)) {
            return -2;
        }
        if (sheets[s] == null) {
            return found(1);
        }
        int had = size(s);
        sheets[s] = null;
        return had;
    }

    private int findingOf(int s, int form, int i) {
        if (sheets[s] == null) {
            return 1;
        }
        return formOf(s) != form ? 3 : in(i, 0, size(s) - 1) ? 0 : 2;
    }

    int lay(int s, int form, int i, int v) {
        if (!in(s, 0, 3) || !in(form, 0, 2)) {
            return -2;
        }
        int f = findingOf(s, form, i);
        if (f != 0) {
            return found(f);
        }
        put(s, i, v);
        return 1;
    }

    int get(int s, int form, int i) {
        if (!in(s, 0, 3) || !in(form, 0, 2)) {
            return LEAST;
        }
        int f = findingOf(s, form, i);
        if (f != 0) {
            found(f);
            return LEAST;
        }
        return item(s, i);
    }

    int copy(int s, int i, int t, int j, int n) {
        if (!in(s, 0, 3) || !in(t, 0, 3)) {
            return -2;
        }
        if (sheets[s] == null || sheets[t] == null) {
            return found(1);
        }
        if (formOf(s) != formOf(t)) {
            return found(4);
        }
        if (i < 0 || j < 0 || n < 0 || (long) i + n > size(s) || (long) j + n > size(t)) {
            return found(2);
        }
        int[] held = new int[n];
        for (int k = 0; k < n; k++) {
            held[k] = item(s, i + k);
        }
        for (int k = 0; k < n; k++) {
            put(t, j + k, held[k]);
        }
        return 1;
    }

    int write(int year, int s) {
        if (!in(year, 0, 59) || !in(s, 0, 3)) {
            return -2;
        }
        if (sheets[s] == null) {
            return found(1);
        }
        int came = 0;
        for (int i = 0; i < size(s) && year + i < 60; i++) {
            int[] k = knownOf(year + i);
            put(s, i, k[0] == 0 ? k[1] : -1);
            came++;
        }
        return came;
    }

    private int ofKind(int kind) {
        int years = 0;
        for (int year = 0; year < 60; year++) {
            years += counts(year) && knownOf(year)[0] == kind ? 1 : 0;
        }
        return years;
    }

    int count(int what) {
        int sisterYears = 0;
        for (Integer level : sisters) {
            sisterYears += level == null ? 0 : 1;
        }
        int greatest = -1;
        for (int level : exact()) {
            greatest = Math.max(greatest, level);
        }
        int[] counts = {tellings.size(), watches.size(), ofKind(0), ofKind(1), ofKind(2), greatest, sisterYears,
            flows.length(), finding};
        return in(what, 0, 8) ? counts[what] : -2;
    }

    long digest() {
        BigInteger h = BigInteger.valueOf(17);
        for (long item : digested()) {
            h = h.multiply(BigInteger.valueOf(31)).add(BigInteger.valueOf(item));
        }
        return h.longValue();
    }

    private List<Long> digested() {
        List<Long> items = new ArrayList<>();
        for (int what = 0; what <= 7; what++) {
            items.add((long) count(what));
        }
        for (int year = 0; year < 60; year++) {
            items.add((long) known(year, 0));
            items.add((long) known(year, 1));
            items.add((long) filled(year, 0));
        }
        for (int level : new int[] {100, 300, 500}) {
            for (int what = 0; what <= 2; what++) {
                items.add((long) over(level, what));
            }
            items.add(rare(level, 0, 0));
            items.add(rare(level, 0, 1));
        }
        int[] rest = {soRare(10), records(0), records(1), records(2), rises(), changed(0), common(0), common(1), fault(),
            best(), sure(20)};
        for (int item : rest) {
            items.add((long) item);
        }
        return items;
    }
}
