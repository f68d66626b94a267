/** Promises 1 to 6: a new object, tell, read, watch, set, known. */
public final class ToldTest {
    private ToldTest() {
    }

    public static void main(String[] args) {
        constants();
        newObject();
        tell();
        tellRefuses();
        latestTelling();
        tellIsFull();
        read();
        readNarrowed();
        readAndTimes();
        readRefuses();
        readStopsWhenFull();
        watch();
        set();
        asOf();
        known();
        Due.end();
    }

    private static void constants() {
        Due.is("NONE", WallMarks.NONE, -1);
        Due.is("BAD", WallMarks.BAD, -2);
        Due.is("NOT", WallMarks.NOT, -3);
        Due.is("FULL", WallMarks.FULL, -4);
    }

    private static void newObject() {
        WallMarks x = new WallMarks();
        for (int year = 0; year < 60; year++) {
            Due.is("new known 0", x.known(year, 0), 2);
            Due.is("new known 1", x.known(year, 1), -1);
        }
        int[] counts = {0, 0, 0, 0, 60, -1, 0, 0, 0};
        for (int what = 0; what < counts.length; what++) {
            Due.is("new count " + what, x.count(what), counts[what]);
        }
        for (int s = 0; s < 4; s++) {
            Due.is("new lose", x.lose(s), Due.NULL);
        }
    }

    private static void tell() {
        WallMarks x = new WallMarks();
        Due.is("tell", x.tell(0, 0, 0, 0), 1);
        Due.is("tell", x.tell(59, 0, 999, 0), 2);
        Due.is("tell less", x.tell(1, 1, 1, 7), 3);
        Due.is("tell less", x.tell(2, 1, 999, 999), 4);
        Due.is("tell nothing", x.tell(3, 2, Integer.MIN_VALUE, 999), 5);
        Due.is("tell nothing", x.tell(3, 2, Integer.MAX_VALUE, 999), 6);
        Due.is("level", x.known(0, 1), 0);
        Due.is("level", x.known(59, 1), 999);
        Due.is("less", x.known(1, 0), 1);
        Due.is("less", x.known(2, 1), 999);
        Due.is("nothing", x.known(3, 0), 2);
        Due.is("no level", x.known(3, 1), -1);
        Due.is("tellings", x.count(0), 6);
    }

    private static void tellRefuses() {
        WallMarks x = new WallMarks();
        Due.is("time -1", x.tell(5, 0, 5, -1), -2);
        x.tell(5, 0, 5, 10);
        int[][] wrong = {
            {-1, 0, 5, 10}, {60, 0, 5, 10}, {0, -1, 5, 10}, {0, 3, 5, 10}, {0, 0, -1, 10}, {0, 0, 1000, 10},
            {0, 1, 0, 10}, {0, 1, 1000, 10}, {0, 1, -1, 10}, {0, 0, 5, 9}, {0, 0, 5, -1}, {0, 0, 5, 1000},
            {0, 2, 0, 9}, {60, 2, 0, 10}};
        for (int[] w : wrong) {
            Due.is("tell wrong", x.tell(w[0], w[1], w[2], w[3]), -2);
        }
        Due.is("nothing came", x.count(0), 1);
        Due.is("year 0", x.known(0, 0), 2);
    }

    private static void latestTelling() {
        WallMarks x = new WallMarks();
        x.tell(4, 0, 300, 1);
        x.tell(4, 1, 200, 1);
        Due.is("put right at the same time", x.known(4, 0), 1);
        Due.is("put right at the same time", x.known(4, 1), 200);
        x.tell(4, 2, 0, 2);
        Due.is("taken back", x.known(4, 0), 2);
        x.tell(4, 0, 250, 3);
        Due.is("told anew", x.known(4, 1), 250);
    }

    private static void tellIsFull() {
        WallMarks x = new WallMarks();
        for (int i = 1; i <= 120; i++) {
            Due.is("tell", x.tell(i % 60, 0, i, 3), i);
        }
        Due.is("full", x.tell(0, 0, 1, 3), -4);
        Due.is("bad goes ahead of full", x.tell(0, 0, 1, 2), -2);
        Due.is("nothing changed", x.known(0, 1), 120);
        Due.is("tellings", x.count(0), 120);
    }

    private static WallMarks withRow(int form, int... items) {
        WallMarks x = new WallMarks();
        x.sheet(2, form, items.length);
        for (int i = 0; i < items.length; i++) {
            x.lay(2, form, i, items[i]);
        }
        return x;
    }

    private static void read() {
        WallMarks x = withRow(2, 0, 999, 5, 1000, 7);
        Due.is("read", x.read(2, 10, 4), 3);
        Due.is("read 10", x.known(10, 0), 0);
        Due.is("read 10", x.known(10, 1), 0);
        Due.is("read 11", x.known(11, 1), 999);
        Due.is("read 12", x.known(12, 1), 5);
        Due.is("not read", x.known(13, 0), 2);
        Due.is("not read", x.known(14, 0), 2);
        Due.is("tellings", x.count(0), 3);
        Due.is("its time holds", x.tell(0, 0, 0, 3), -2);
        WallMarks y = withRow(0, 127, -128, 3);
        Due.is("read bytes", y.read(2, 0, 4), 1);
        Due.is("read bytes", y.known(0, 1), 127);
        WallMarks z = withRow(1, -1, 3);
        Due.is("read none", z.read(2, 0, 9), 0);
        Due.is("no telling, no time", z.tell(0, 0, 0, 3), 1);
        WallMarks w = withRow(2, 7, 8, 9);
        Due.is("read to the last year", w.read(2, 58, 0), 2);
        Due.is("last year", w.known(59, 1), 8);
        WallMarks e = withRow(2);
        Due.is("read an empty row", e.read(2, 0, 0), 0);
    }

    /** What is read is the item that the row holds, not the number that was laid. */
    private static void readNarrowed() {
        WallMarks x = new WallMarks();
        Rows.run(x, "sheet 0 0 3 = 3", "lay 0 0 0 261 = 1", "lay 0 0 1 127 = 1", "lay 0 0 2 128 = 1", "read 0 0 0 = 2",
            "known 0 1 = 5", "known 1 1 = 127", "known 2 0 = 2", "sheet 1 1 3 = 3", "lay 1 1 0 65543 = 1",
            "lay 1 1 1 999 = 1", "lay 1 1 2 32768 = 1", "read 1 10 0 = 2", "known 10 1 = 7", "known 11 1 = 999",
            "known 12 0 = 2", "sheet 2 2 2 = 2", "lay 2 2 1 65543 = 1", "read 2 20 0 = 1", "known 20 1 = 0",
            "known 21 0 = 2", "lay 2 2 0 MIN = 1", "read 2 20 0 = 0", "lay 2 2 0 MAX = 1", "read 2 20 0 = 0",
            "lay 2 2 0 1000 = 1", "read 2 20 0 = 0", "lay 2 2 0 -1 = 1", "read 2 20 0 = 0", "count 0 = 5");
    }

    private static void readAndTimes() {
        WallMarks x = withRow(2, 5, 6);
        Rows.run(x, "read 2 0 7 = 2", "tell 3 0 1 6 = BAD", "read 2 0 6 = BAD", "read 2 3 7 = 2", "set 0 6 = 999",
            "known 0 0 = 2", "set 0 7 = 6", "known 0 1 = 5", "lay 2 2 0 -1 = 1", "read 2 0 500 = 0", "tell 9 0 1 7 = 5",
            "lay 2 2 0 8 = 1", "read 2 0 999 = 2", "known 0 0 = 0", "known 0 1 = 5", "set 0 999 = 7", "known 0 1 = 8");
        WallMarks y = withRow(0);
        Rows.run(y, "read 2 0 999 = 0", "tell 0 0 0 0 = 1");
    }

    private static void readRefuses() {
        WallMarks x = withRow(2, 7);
        Due.is("time -1", x.read(2, 5, -1), -2);
        x.tell(0, 0, 5, 10);
        int[][] wrong = {{-1, 0, 10}, {4, 0, 10}, {2, -1, 10}, {2, 60, 10}, {2, 0, 9}, {2, 0, 1000}, {1, 60, 10}};
        for (int[] w : wrong) {
            Due.is("read wrong", x.read(w[0], w[1], w[2]), -2);
        }
        Due.is("no finding", x.count(8), 0);
        Due.is("read lost", x.read(1, 0, 10), Due.NULL);
        Due.is("finding", x.count(8), 1);
        Due.is("tellings", x.count(0), 1);
    }

    private static void readStopsWhenFull() {
        WallMarks x = withRow(2, 7, 8, 9);
        for (int i = 0; i < 118; i++) {
            x.tell(59, 2, 0, 0);
        }
        Due.is("room for two", x.read(2, 0, 0), 2);
        Due.is("third", x.known(2, 0), 2);
        Due.is("no room", x.read(2, 0, 0), 0);
        Due.is("tellings", x.count(0), 120);
    }

    private static void watch() {
        WallMarks x = new WallMarks();
        int[][] wrong = {{-1, 5, 5}, {0, 60, 5}, {5, 4, 5}, {0, 0, 0}, {0, 0, 1000}, {60, 60, 5}, {-3, -2, 5}};
        for (int[] w : wrong) {
            Due.is("watch wrong", x.watch(w[0], w[1], w[2]), -2);
        }
        Due.is("watch", x.watch(5, 10, 500), 0);
        Due.is("watch", x.watch(10, 10, 999), 1);
        Due.is("watch", x.watch(8, 59, 300), 2);
        Due.is("watch", x.watch(0, 0, 1), 3);
        Due.is("watch", x.watch(8, 9, 400), 4);
        Due.is("watch", x.watch(59, 59, 7), 5);
        Due.is("watch full", x.watch(0, 0, 1), -4);
        Due.is("bad goes ahead of full", x.watch(0, 0, 0), -2);
        Due.is("watches", x.count(1), 6);
        int[][] least = {{0, 1}, {1, -1}, {4, -1}, {5, 500}, {7, 500}, {8, 300}, {10, 300}, {58, 300}, {59, 7}};
        for (int[] l : least) {
            Due.is("watched year " + l[0], x.known(l[0], 1), l[1]);
        }
    }

    private static void set() {
        WallMarks x = new WallMarks();
        int[] first = {999, 0, 59, 1, 500, 50};
        int[] least = {0, 0, 0, 0, 0, 1};
        int[] greatest = {999, 59, 59, 99, 9999, 99};
        for (int what = 0; what < 6; what++) {
            Due.is("set too low", x.set(what, least[what] - 1), -2);
            Due.is("set too high", x.set(what, greatest[what] + 1), -2);
            Due.is("set", x.set(what, least[what]), first[what]);
            Due.is("set", x.set(what, greatest[what]), least[what]);
            Due.is("set", x.set(what, first[what]), greatest[what]);
        }
        Due.is("set -1", x.set(-1, 1), -2);
        Due.is("set 6", x.set(6, 1), -2);
        x.set(1, 30);
        x.set(2, 30);
        Due.is("one year counts", x.count(4), 1);
        x.set(2, 29);
        Due.is("none counts", x.count(4), 0);
    }

    private static void asOf() {
        WallMarks x = new WallMarks();
        x.tell(0, 0, 100, 5);
        x.tell(0, 1, 200, 6);
        x.tell(0, 2, 0, 8);
        x.watch(0, 0, 50);
        Due.is("as of 999", x.known(0, 1), 50);
        x.set(0, 4);
        Due.is("as of 4", x.known(0, 1), 50);
        x.set(0, 5);
        Due.is("as of 5", x.known(0, 0), 0);
        Due.is("as of 5", x.known(0, 1), 100);
        x.set(0, 7);
        Due.is("as of 7", x.known(0, 0), 1);
        Due.is("as of 7", x.known(0, 1), 200);
        x.set(0, 8);
        Due.is("as of 8", x.known(0, 1), 50);
        Due.is("all tellings", x.count(0), 3);
        x.set(0, 2);
        Due.is("told later than as of", x.tell(1, 0, 7, 8), 4);
        Due.is("not yet so", x.known(1, 0), 2);
    }

    private static void known() {
        WallMarks x = new WallMarks();
        x.tell(0, 0, 700, 0);
        x.tell(1, 1, 700, 0);
        x.tell(2, 2, 700, 0);
        x.watch(0, 3, 300);
        int[][] due = {{0, 700}, {1, 700}, {1, 300}, {1, 300}, {2, -1}};
        for (int year = 0; year < due.length; year++) {
            Due.is("known " + year, x.known(year, 0), due[year][0]);
            Due.is("level " + year, x.known(year, 1), due[year][1]);
        }
        x.set(1, 59);
        Due.is("known though it does not count", x.known(0, 1), 700);
        int[][] wrong = {{-1, 0}, {60, 0}, {0, -1}, {0, 2}};
        for (int[] w : wrong) {
            Due.is("known wrong", x.known(w[0], w[1]), -2);
        }
    }
}
