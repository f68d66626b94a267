import java.util.Random;

/** Long runs of calls, the same each time, on WallMarks and on PlainMarks: both answer alike. */
public final class PlainMarksTest {
    private static final int RUNS = 400;
    private static final int CALLS = 500;

    private final Random random;
    private final WallMarks x = new WallMarks();
    private final PlainMarks y = new PlainMarks();
    private final int years;
    private final int levels;
    private int time = 0;

    private PlainMarksTest(int run) {
        random = new Random(run);
        // Few YEARS keep below the limits of FULL; few LEVELS bring like ones.
        years = new int[] {4, 8, 13, 16, 25, 60}[run % 6];
        levels = new int[] {5, 40, 999}[run / 6 % 3];
    }

    public static void main(String[] args) {
        for (int run = 0; run < RUNS; run++) {
            PlainMarksTest test = new PlainMarksTest(run);
            if (run % 2 == 0) {
                Due.is("set", test.x.set(2, test.years - 1), test.y.set(2, test.years - 1));
            }
            for (int call = 0; call < CALLS; call++) {
                test.someCall();
            }
            Due.is("digest of run " + run, test.x.digest(), SheetsTest.digestOf(test.x));
        }
        Due.end();
    }

    /** Mostly from 0 to below a bound, now and then just outside. */
    private int some(int bound) {
        int chance = random.nextInt(60);
        return chance == 0 ? -1 : chance == 1 ? bound : random.nextInt(bound);
    }

    private int year() {
        return random.nextInt(20) == 0 ? some(60) : some(years);
    }

    private int level() {
        return random.nextInt(20) == 0 ? some(1000) : some(levels + 1);
    }

    private int soon() {
        if (random.nextInt(12) == 0) {
            time = Math.min(time + random.nextInt(3), 999);
        }
        return random.nextInt(30) == 0 ? time - 1 : time;
    }

    private void someCall() {
        switch (random.nextInt(10)) {
            case 0: case 1: case 2: tellSome(); break;
            case 3: rareSome(); break;
            case 4: chanceSome(); break;
            case 5: recordSome(); break;
            case 6: sisterSome(); break;
            case 7: flowSome(); break;
            case 8: dykeSome(); break;
            default: sheetSome(); break;
        }
    }

    private void tellSome() {
        int a = year();
        int b = year();
        int v = level();
        int t = soon();
        int what = some(6);
        switch (random.nextInt(8)) {
            case 0: case 1: case 2:
                int kind = random.nextInt(2) == 0 ? 0 : some(3);
                Due.is("tell", x.tell(a, kind, v, t), y.tell(a, kind, v, t));
                break;
            case 3:
                Due.is("read", x.read(what, a, t), y.read(what, a, t));
                break;
            case 4:
                if (random.nextInt(4) == 0) {
                    Due.is("watch", x.watch(a, b, v), y.watch(a, b, v));
                }
                break;
            case 5:
                int[] bounds = {Math.max(time, 1), years, years, 100, 10000, 100};
                if (random.nextInt(3) == 0) {
                    int w = some(what >= 0 && what < 6 ? bounds[what] : 5);
                    Due.is("set", x.set(what, w), y.set(what, w));
                } else {
                    Due.is("set back", x.set(what, what == 0 ? 999 : what == 1 ? 0 : 59), y.set(what, what == 0 ? 999 : what == 1 ? 0 : 59));
                }
                break;
            default:
                Due.is("known", x.known(a, 0), y.known(a, 0));
                Due.is("known level", x.known(a, 1), y.known(a, 1));
                Due.is("known what", x.known(a, what), y.known(a, what));
                break;
        }
    }

    private void rareSome() {
        int v = level();
        int which = some(4);
        int what = some(3);
        int p = some(101);
        int a = year();
        Due.is("over", x.over(v, what), y.over(v, what));
        Due.is("rare", x.rare(v, which, what), y.rare(v, which, what));
        Due.is("soRare", x.soRare(p), y.soRare(p));
        Due.is("rank", x.rank(a), y.rank(a));
    }

    private void chanceSome() {
        int n = 1 + some(15);
        int a = some(17);
        int k = some(16);
        int what = some(2);
        int share = some(257);
        int m = 1 + some(20);
        int s = 1 + (random.nextInt(9) == 0 ? some(60) : some(Math.min(years, 20)));
        int over = some(m + 1);
        int i = 1 + some(Math.min(years, 15));
        int j = 1 + some(Math.min(years, 15));
        Due.is("again", x.again(n, a, k, what), y.again(n, a, k, what));
        Due.is("lasts", x.lasts(a, share), y.lasts(a, share));
        Due.is("next", x.next(m, s, over, what), y.next(m, s, over, what));
        Due.is("between", x.between(a, i, j, what), y.between(a, i, j, what));
    }

    private void recordSome() {
        int what = some(4);
        int either = some(2);
        int a = year();
        Due.is("records", x.records(what), y.records(what));
        Due.is("rises", x.rises(), y.rises());
        Due.is("change", x.change(a, either), y.change(a, either));
        Due.is("changed", x.changed(either), y.changed(either));
    }

    private void sisterSome() {
        int a = year();
        int v = random.nextInt(4) == 0 ? -1 : level();
        int what = some(3);
        Due.is("sister", x.sister(a, v), y.sister(a, v));
        Due.is("common", x.common(what), y.common(what));
        for (int i = 0; i < 4; i++) {
            int b = year();
            Due.is("filled", x.filled(b, what), y.filled(b, what));
        }
    }

    private void flowSome() {
        if (random.nextInt(6) == 0) {
            Due.is("wipe", x.wipe(), y.wipe());
        }
        String text = random.nextInt(3) == 0 ? wildText() : pairText();
        for (int i = 0; i < text.length(); i++) {
            Due.is("type", x.type(text.charAt(i)), y.type(text.charAt(i)));
        }
        int v = level();
        int what = some(2);
        int b = some(256);
        Due.is("fault", x.fault(), y.fault());
        Due.is("flow", x.flow(v, what), y.flow(v, what));
        if (random.nextInt(20) == 0) {
            Due.is("type", x.type(b), y.type(b));
        }
    }

    private String wildText() {
        StringBuilder text = new StringBuilder();
        for (int i = random.nextInt(6); i > 0; i--) {
            text.append("0123456789:;:;:;/".charAt(random.nextInt(17)));
        }
        return text.toString();
    }

    private String pairText() {
        StringBuilder text = new StringBuilder();
        int had = y.wipe();
        Due.is("wipe", x.wipe(), had);
        int level = random.nextInt(300);
        int amount = random.nextInt(300);
        int pairs = 1 + random.nextInt(7);
        for (int i = 0; i < pairs; i++) {
            text.append(i == 0 ? "" : ";").append(level).append(':').append(amount);
            level += random.nextInt(12) == 0 ? 0 : 1 + random.nextInt(130);
            amount += random.nextInt(12) == 0 ? -1 : random.nextInt(130);
        }
        if (random.nextInt(4) == 0) {
            text.setLength(random.nextInt(text.length()));
        }
        return text.length() > 60 ? text.substring(0, 60) : text.toString();
    }

    private void dykeSome() {
        int h = level();
        int what = some(2);
        int p = some(101);
        Due.is("dyke", x.dyke(h, what), y.dyke(h, what));
        if (random.nextInt(10) == 0) {
            Due.is("best", x.best(), y.best());
            Due.is("sure", x.sure(p), y.sure(p));
        }
    }

    private void sheetSome() {
        int s = some(4);
        int t = some(4);
        int form = some(3);
        int i = some(12);
        int j = some(12);
        int n = some(12);
        int v = random.nextInt(3) == 0 ? random.nextInt() : level();
        switch (random.nextInt(12)) {
            case 0:
                int size = random.nextInt(5) == 0 ? some(61) : n;
                Due.is("sheet", x.sheet(s, form, size), y.sheet(s, form, size));
                break;
            case 1:
                if (random.nextInt(4) == 0) {
                    Due.is("lose", x.lose(s), y.lose(s));
                }
                break;
            case 2: case 3: case 4: case 5:
                Due.is("lay", x.lay(s, form, i, v), y.lay(s, form, i, v));
                break;
            case 6: case 7:
                Due.is("copy", x.copy(s, i, t, j, n), y.copy(s, i, t, j, n));
                break;
            case 8:
                int a = year();
                Due.is("write", x.write(a, s), y.write(a, s));
                break;
            default:
                Due.is("get", x.get(s, form, i), y.get(s, form, i));
                break;
        }
        for (int what = -1; what <= 9; what++) {
            Due.is("count " + what, x.count(what), y.count(what));
        }
    }
}
