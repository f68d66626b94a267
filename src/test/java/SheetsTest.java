/** Promises 29 to 36: sheet, lose, lay, get, copy, write, count, digest. */
public final class SheetsTest {
    private static final int LEAST = Integer.MIN_VALUE;

    private SheetsTest() {
    }

    public static void main(String[] args) {
        sheet();
        lose();
        lay();
        layRefuses();
        get();
        copy();
        copyRefuses();
        write();
        writeRefuses();
        count();
        digestOfNew();
        digestSeesAll();
        digestAtItsHundredths();
        digestWraps();
        Due.end();
    }

    private static void sheet() {
        WallMarks x = new WallMarks();
        int[][] wrong = {{-1, 0, 1}, {4, 0, 1}, {0, -1, 1}, {0, 3, 1}, {0, 0, 61}, {4, 0, -1}, {0, 3, -1}};
        for (int[] w : wrong) {
            Due.is("sheet wrong", x.sheet(w[0], w[1], w[2]), -2);
        }
        Due.is("no finding", x.count(8), 0);
        Due.is("below 0", x.sheet(0, 0, -1), Due.SIZE);
        Due.is("finding", x.count(8), 5);
        Due.is("still lost", x.lose(0), Due.NULL);
        Due.is("no items", x.sheet(0, 0, 0), 0);
        Due.is("sixty items", x.sheet(0, 2, 60), 60);
        x.lay(0, 2, 59, 7);
        Due.is("a new row", x.sheet(0, 2, 60), 60);
        Due.is("of 0", x.get(0, 2, 59), 0);
        Due.is("of another form", x.sheet(0, 1, 3), 3);
        Due.is("of another form", x.get(0, 1, 2), 0);
        x.sheet(0, 1, -9);
        Due.is("stands as it was", x.lose(0), 3);
    }

    private static void lose() {
        WallMarks x = new WallMarks();
        x.sheet(3, 1, 8);
        Due.is("lose -1", x.lose(-1), -2);
        Due.is("lose 4", x.lose(4), -2);
        Due.is("lose", x.lose(3), 8);
        Due.is("lost", x.lose(3), Due.NULL);
        Due.is("finding", x.count(8), 1);
        Due.is("lost", x.lay(3, 1, 0, 0), Due.NULL);
        x.sheet(3, 0, 0);
        Due.is("lose an empty one", x.lose(3), 0);
    }

    private static void lay() {
        WallMarks x = new WallMarks();
        int[] items = {0, 1, -1, 127, 128, -128, -129, 255, 256, 32767, 32768, -32769, 65535, 65536, LEAST, Integer.MAX_VALUE};
        for (int form = 0; form <= 2; form++) {
            x.sheet(form, form, 16);
            for (int i = 0; i < items.length; i++) {
                Due.is("lay", x.lay(form, form, i, items[i]), 1);
            }
            for (int i = 0; i < items.length; i++) {
                int due = form == 0 ? (byte) items[i] : form == 1 ? (short) items[i] : items[i];
                Due.is("get " + form + " " + items[i], x.get(form, form, i), due);
            }
        }
        Due.is("no finding", x.count(8), 0);
    }

    private static void layRefuses() {
        WallMarks x = new WallMarks();
        x.sheet(0, 1, 3);
        Due.is("sheet -1", x.lay(-1, 1, 0, 0), -2);
        Due.is("sheet 4", x.lay(4, 1, 0, 0), -2);
        Due.is("form -1", x.lay(1, -1, 0, 0), -2);
        Due.is("form 3", x.lay(1, 3, 0, 0), -2);
        Due.is("no finding", x.count(8), 0);
        Due.is("lost", x.lay(1, 1, 9, 0), Due.NULL);
        Due.is("finding", x.count(8), 1);
        Due.is("another form", x.lay(0, 2, 9, 0), Due.CAST);
        Due.is("finding", x.count(8), 3);
        Due.is("no such item", x.lay(0, 1, 3, 0), Due.INDEX);
        Due.is("finding", x.count(8), 2);
        Due.is("no such item", x.lay(0, 1, -1, 0), Due.INDEX);
        Due.is("no such item", x.lay(0, 1, LEAST, 0), Due.INDEX);
        x.lay(9, 9, 9, 9);
        Due.is("the latest finding stays", x.count(8), 2);
    }

    private static void get() {
        WallMarks x = new WallMarks();
        x.sheet(0, 1, 3);
        x.lay(0, 1, 2, 77);
        Due.is("get", x.get(0, 1, 2), 77);
        int[][] wrong = {{-1, 1, 0, 0}, {4, 1, 0, 0}, {0, -1, 0, 0}, {0, 3, 0, 0}, {1, 1, 9, 1}, {0, 0, 9, 3}, {0, 1, 3, 2},
            {0, 1, -1, 2}, {4, 3, 9, 2}};
        for (int[] w : wrong) {
            Due.is("get wrong", x.get(w[0], w[1], w[2]), LEAST);
            Due.is("finding", x.count(8), w[3]);
        }
    }

    private static WallMarks counting() {
        WallMarks x = new WallMarks();
        x.sheet(0, 2, 5);
        x.sheet(1, 2, 3);
        for (int i = 0; i < 5; i++) {
            x.lay(0, 2, i, i + 1);
        }
        return x;
    }

    private static void itemsAre(String call, WallMarks x, int s, int... items) {
        for (int i = 0; i < items.length; i++) {
            Due.is(call + " item " + i, x.get(s, 2, i), items[i]);
        }
    }

    private static void copy() {
        WallMarks x = counting();
        Due.is("copy", x.copy(0, 2, 1, 0, 3), 1);
        itemsAre("copy", x, 1, 3, 4, 5);
        itemsAre("copy from", x, 0, 1, 2, 3, 4, 5);
        Due.is("copy on itself, up", x.copy(0, 0, 0, 1, 4), 1);
        itemsAre("up", x, 0, 1, 1, 2, 3, 4);
        Due.is("copy on itself, down", x.copy(0, 1, 0, 0, 4), 1);
        itemsAre("down", x, 0, 1, 2, 3, 4, 4);
        Due.is("copy none from the end", x.copy(0, 5, 1, 3, 0), 1);
        Due.is("copy all", x.copy(1, 0, 0, 2, 3), 1);
        itemsAre("all", x, 0, 1, 2, 3, 4, 5);
    }

    private static void copyRefuses() {
        WallMarks x = counting();
        x.sheet(2, 1, 5);
        Due.is("sheet -1", x.copy(-1, 0, 0, 0, 0), -2);
        Due.is("sheet 4", x.copy(0, 0, 4, 0, 0), -2);
        Due.is("bad goes ahead of null", x.copy(3, 0, 4, 0, 0), -2);
        Due.is("no finding", x.count(8), 0);
        Due.is("from lost", x.copy(3, 0, 0, 0, 0), Due.NULL);
        Due.is("to lost", x.copy(0, 0, 3, 9, 0), Due.NULL);
        Due.is("unlike forms", x.copy(0, 9, 2, 9, -1), Due.STORE);
        Due.is("finding", x.count(8), 4);
        int max = Integer.MAX_VALUE;
        int[][] wrong = {{-1, 0, 1}, {0, -1, 1}, {0, 0, -1}, {3, 0, 3}, {0, 1, 3}, {6, 0, 0}, {0, 4, 0}, {5, 0, 1}, {0, 3, 1},
            {max, 0, max}, {0, max, max}, {1, 1, max}, {LEAST, 0, LEAST}, {0, 0, 4}, {-1, 0, 0}, {0, -1, 0}};
        for (int[] w : wrong) {
            Due.is("copy wrong", x.copy(0, w[0], 1, w[1], w[2]), Due.INDEX);
        }
        Due.is("finding", x.count(8), 2);
        itemsAre("nothing came", x, 1, 0, 0, 0);
    }

    private static void write() {
        WallMarks x = Due.withLevels(0, 999, 300);
        x.tell(1, 1, 999, 0);
        x.tell(58, 0, 128, 0);
        x.tell(59, 0, 255, 0);
        x.watch(3, 3, 7);
        x.set(1, 30);
        x.set(2, 40);
        x.sheet(0, 2, 5);
        Due.is("write", x.write(0, 0), 5);
        itemsAre("ints", x, 0, 0, -1, 300, -1, -1);
        Due.is("write the last", x.write(58, 0), 2);
        itemsAre("the others stay", x, 0, 128, 255, 300, -1, -1);
        x.sheet(1, 0, 3);
        Due.is("write bytes", x.write(2, 1), 3);
        Due.is("300 in a byte", x.get(1, 0, 0), 44);
        Due.is("none in a byte", x.get(1, 0, 1), -1);
        x.write(58, 1);
        Due.is("128 in a byte", x.get(1, 0, 0), -128);
        Due.is("255 in a byte", x.get(1, 0, 1), -1);
        x.sheet(2, 1, 60);
        Due.is("write all", x.write(0, 2), 60);
        Due.is("999 would go in a short", x.get(2, 1, 59), 255);
        x.sheet(2, 1, 0);
        Due.is("write no items", x.write(0, 2), 0);
    }

    private static void writeRefuses() {
        WallMarks x = new WallMarks();
        Due.is("year -1", x.write(-1, 0), -2);
        Due.is("year 60", x.write(60, 0), -2);
        Due.is("sheet -1", x.write(0, -1), -2);
        Due.is("sheet 4", x.write(0, 4), -2);
        Due.is("no finding", x.count(8), 0);
        Due.is("lost", x.write(0, 0), Due.NULL);
        Due.is("finding", x.count(8), 1);
    }

    private static void countsAre(String call, WallMarks x, int... due) {
        for (int what = 0; what < due.length; what++) {
            Due.is(call + " count " + what, x.count(what), due[what]);
        }
    }

    private static void count() {
        WallMarks x = Due.withLevels(5, 900, 7);
        x.tell(3, 1, 100, 1);
        x.watch(3, 5, 50);
        x.sister(1, 5);
        x.sister(40, 0);
        x.type(1);
        x.get(0, 0, 0);
        countsAre("all", x, 4, 1, 3, 3, 54, 900, 2, 1, 1);
        x.set(1, 2);
        x.set(2, 5);
        countsAre("2 to 5", x, 4, 1, 1, 3, 0, 7, 2, 1, 1);
        x.set(1, 6);
        countsAre("none", x, 4, 1, 0, 0, 0, -1, 2, 1, 1);
        Due.is("count -1", x.count(-1), -2);
        Due.is("count 9", x.count(9), -2);
    }

    /** The digest by the document's words, from the answers of the other calls. */
    private static long digestOf(WallMarks x) {
        long h = 17;
        for (int what = 0; what <= 7; what++) {
            h = 31 * h + x.count(what);
        }
        for (int year = 0; year < 60; year++) {
            h = 31 * h + x.known(year, 0);
            h = 31 * h + x.known(year, 1);
            h = 31 * h + x.filled(year, 0);
        }
        int[] levels = {100, 300, 500};
        for (int level : levels) {
            h = 31 * h + x.over(level, 0);
            h = 31 * h + x.over(level, 1);
            h = 31 * h + x.over(level, 2);
            h = 31 * h + x.rare(level, 0, 0);
            h = 31 * h + x.rare(level, 0, 1);
        }
        long[] rest = {x.soRare(10), x.records(0), x.records(1), x.records(2), x.rises(), x.changed(0), x.common(0),
            x.common(1), x.fault(), x.best(), x.sure(20)};
        for (long item : rest) {
            h = 31 * h + item;
        }
        return h;
    }

    private static void digestOfNew() {
        WallMarks x = new WallMarks();
        Due.is("digest of a new one", x.digest(), digestOf(x));
        x.get(0, 0, 0);
        Due.is("a finding is not in it", x.digest(), digestOf(new WallMarks()));
    }

    private static WallMarks withMore() {
        WallMarks x = Due.withLevels(120, 340, 560, 80);
        x.tell(4, 1, 300, 0);
        x.watch(6, 9, 500);
        x.sister(0, 60);
        x.sister(2, 90);
        x.sister(5, 100);
        Due.typeAnew(x, "1:1;2:2");
        return x;
    }

    private static void digestSeesAll() {
        WallMarks x = Due.withLevels(120, 340, 560, 80);
        long before = x.digest();
        Due.is("digest", before, digestOf(x));
        WallMarks y = withMore();
        Due.is("digest of more", y.digest(), digestOf(y));
        Due.yes("is another", y.digest() != before);
        WallMarks z = withMore();
        z.set(1, 1);
        z.set(2, 20);
        Due.is("digest of some years", z.digest(), digestOf(z));
    }

    /** RARE of the greatest of 9 is just 10 hundredths, of 10 it is less; so with MOST RARE of 4 YEARS, of 23. */
    private static void digestAtItsHundredths() {
        for (int years : new int[] {4, 9, 10, 23}) {
            WallMarks x = new WallMarks();
            for (int year = 0; year < years; year++) {
                x.tell(year, 0, 20 * year + 90, 0);
            }
            x.set(2, years - 1);
            Due.is("digest of " + years, x.digest(), digestOf(x));
        }
    }

    /** By numbers without an end, of which the lowest 64 bits are due. */
    private static void digestWraps() {
        for (String state : new String[] {"new", "some", "late", "none counts", "full"}) {
            PlainMarks y = new PlainMarks();
            States.make(state, y);
            Due.is("digest, " + state, States.made(state).digest(), y.digest());
        }
        WallMarks x = States.made("some");
        long first = x.digest();
        Due.is("a digest changes nothing", x.digest(), first);
        Due.is("a digest makes no FINDING", x.count(8), 4);
    }
}
