import java.util.Random;

/** Runs of calls, the same each time, on WallMarks and on PlainMarks: both answer alike. */
public final class PlainMarksTest {
    private static final int RUNS = 1800;
    private static final int CALLS = 512;

    private final Random random;
    private final WallMarks x = new WallMarks();
    private final PlainMarks y = new PlainMarks();
    private final int years;
    private final int levels;
    private int time = 0;
    private int left = CALLS;

    private PlainMarksTest(int run) {
        random = new Random(run);
        // Few YEARS keep below the limits of FULL; few LEVELS bring like ones.
        years = new int[] {4, 8, 13, 16, 25, 60}[run % 6];
        levels = new int[] {5, 40, 999}[run / 6 % 3];
    }

    public static void main(String[] args) {
        for (int run = 0; run < RUNS; run++) {
            new PlainMarksTest(run).calls(run % 2 == 0, new int[] {0, 5, 20, 60, 119, 125}[run % 7 % 6]);
        }
        Due.end();
    }

    private void calls(boolean few, int tellings) {
        if (few) {
            same("set", 2, years - 1);
        }
        for (int i = 0; i < tellings; i++) {
            same("tell", year(), random.nextInt(3) == 0 ? some(3) : 0, level(), soon());
        }
        while (left > 1) {
            someCall();
        }
        same("digest");
    }

    /** Behind the last call that an object has, nothing is asked any more. */
    private void same(String name, int... numbers) {
        if (left > 0) {
            left--;
            Due.is(Calls.text(name, numbers), Calls.on(x, name, numbers), Calls.on(y, name, numbers));
        }
    }

    /** Mostly from 0 to below a bound, now and then just outside. */
    private int some(int bound) {
        int chance = random.nextInt(60);
        return chance == 0 ? -1 : chance == 1 ? bound : random.nextInt(bound);
    }

    private int year() {
        return random.nextInt(20) == 0 ? some(60) : some(years);
    }

    private int level() {
        return random.nextInt(20) == 0 ? some(1000) : some(levels + 1);
    }

    private int soon() {
        if (random.nextInt(12) == 0) {
            time = Math.min(time + random.nextInt(3), 999);
        }
        return random.nextInt(30) == 0 ? time - 1 : time;
    }

    private void someCall() {
        switch (random.nextInt(10)) {
            case 0: case 1: case 2: tellSome(); break;
            case 3: rareSome(); break;
            case 4: chanceSome(); break;
            case 5: recordSome(); break;
            case 6: sisterSome(); break;
            case 7: flowSome(); break;
            case 8: dykeSome(); break;
            default: sheetSome(); break;
        }
    }

    private void tellSome() {
        int a = year();
        int b = year();
        int v = level();
        int t = soon();
        int what = some(6);
        switch (random.nextInt(8)) {
            case 0: case 1: case 2:
                int kind = random.nextInt(2) == 0 ? 0 : some(3);
                same("tell", a, kind, v, t);
                break;
            case 3:
                same("read", what, a, t);
                break;
            case 4:
                if (random.nextInt(4) == 0) {
                    same("watch", a, b, v);
                }
                break;
            case 5:
                int[] bounds = {Math.max(time, 1), years, years, 100, 10000, 100};
                if (random.nextInt(3) == 0) {
                    int w = some(what >= 0 && what < 6 ? bounds[what] : 5);
                    same("set", what, w);
                } else {
                    same("set", what, what == 0 ? 999 : what == 1 ? 0 : 59);
                }
                break;
            default:
                same("known", a, 0);
                same("known", a, 1);
                same("known", a, what);
                break;
        }
    }

    private void rareSome() {
        int v = level();
        int which = some(4);
        int what = some(3);
        int p = some(101);
        int a = year();
        same("over", v, what);
        same("rare", v, which, what);
        same("soRare", p);
        same("rank", a);
    }

    private void chanceSome() {
        int n = 1 + some(15);
        int a = some(17);
        int k = some(16);
        int what = some(2);
        int share = some(257);
        int m = 1 + some(20);
        int s = 1 + (random.nextInt(9) == 0 ? some(60) : some(Math.min(years, 20)));
        int over = some(m + 1);
        int i = 1 + some(Math.min(years, 15));
        int j = 1 + some(Math.min(years, 15));
        same("again", n, a, k, what);
        same("lasts", a, share);
        same("next", m, s, over, what);
        same("between", a, i, j, what);
    }

    private void recordSome() {
        int what = some(4);
        int either = some(2);
        int a = year();
        same("records", what);
        same("rises");
        same("change", a, either);
        same("changed", either);
    }

    private void sisterSome() {
        int a = year();
        int v = random.nextInt(4) == 0 ? -1 : level();
        int what = some(3);
        same("sister", a, v);
        same("common", what);
        for (int i = 0; i < 4; i++) {
            int b = year();
            same("filled", b, what);
        }
    }

    private void flowSome() {
        if (random.nextInt(6) == 0) {
            same("wipe");
        }
        String text = random.nextInt(3) == 0 ? wildText() : pairText();
        for (int i = 0; i < text.length(); i++) {
            same("type", text.charAt(i));
        }
        int v = level();
        int what = some(2);
        int b = some(256);
        same("fault");
        same("flow", v, what);
        if (random.nextInt(20) == 0) {
            same("type", b);
        }
    }

    private String wildText() {
        StringBuilder text = new StringBuilder();
        for (int i = random.nextInt(6); i > 0; i--) {
            text.append("0123456789:;:;:;/".charAt(random.nextInt(17)));
        }
        return text.toString();
    }

    private String pairText() {
        StringBuilder text = new StringBuilder();
        same("wipe");
        int level = random.nextInt(300);
        int amount = random.nextInt(300);
        int pairs = 1 + random.nextInt(7);
        for (int i = 0; i < pairs; i++) {
            text.append(i == 0 ? "" : ";").append(level).append(':').append(amount);
            level += random.nextInt(12) == 0 ? 0 : 1 + random.nextInt(130);
            amount += random.nextInt(12) == 0 ? -1 : random.nextInt(130);
        }
        if (random.nextInt(4) == 0) {
            text.setLength(random.nextInt(text.length()));
        }
        return text.length() > 60 ? text.substring(0, 60) : text.toString();
    }

    private void dykeSome() {
        int h = level();
        int what = some(2);
        int p = some(101);
        same("dyke", h, what);
        if (random.nextInt(10) == 0) {
            same("best");
            same("sure", p);
        }
    }

    private void sheetSome() {
        int s = some(4);
        int t = some(4);
        int form = some(3);
        int i = some(12);
        int j = some(12);
        int n = some(12);
        int v = random.nextInt(3) == 0 ? random.nextInt() : level();
        switch (random.nextInt(12)) {
            case 0:
                int size = random.nextInt(5) == 0 ? some(61) : n;
                same("sheet", s, form, size);
                break;
            case 1:
                if (random.nextInt(4) == 0) {
                    same("lose", s);
                }
                break;
            case 2: case 3: case 4: case 5:
                same("lay", s, form, i, v);
                break;
            case 6: case 7:
                same("copy", s, i, t, j, n);
                break;
            case 8:
                int a = year();
                same("write", a, s);
                break;
            default:
                same("get", s, form, i);
                break;
        }
        for (int what = -1; what <= 9; what++) {
            same("count", what);
        }
    }
}
