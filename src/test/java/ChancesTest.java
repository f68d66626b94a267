/** Promises 11 to 14: again, lasts, next, between. */
public final class ChancesTest {
    private ChancesTest() {
    }

    public static void main(String[] args) {
        again();
        againRefuses();
        lasts();
        next();
        nextAddsUpToOne();
        nextRefuses();
        between();
        betweenRefuses();
        Due.end();
    }

    private static void again() {
        WallMarks x = new WallMarks();
        Due.fraction("again", x.again(1, 8, 1, 0), x.again(1, 8, 1, 1), 1, 2);
        Due.fraction("two of three", x.again(3, 8, 2, 0), x.again(3, 8, 2, 1), 1, 2);
        Due.fraction("all of three", x.again(3, 4, 3, 0), x.again(3, 4, 3, 1), 1, 64);
        Due.fraction("one of two", x.again(2, 4, 1, 0), x.again(2, 4, 1, 1), 7, 16);
        Due.fraction("none or more", x.again(15, 7, 0, 0), x.again(15, 7, 0, 1), 1, 1);
        Due.fraction("more than there are", x.again(14, 16, 15, 0), x.again(14, 16, 15, 1), 0, 1);
        Due.fraction("never", x.again(15, 0, 1, 0), x.again(15, 0, 1, 1), 0, 1);
        Due.fraction("never, none", x.again(15, 0, 0, 0), x.again(15, 0, 0, 1), 1, 1);
        Due.fraction("always", x.again(15, 16, 15, 0), x.again(15, 16, 15, 1), 1, 1);
        Due.fraction("all 15", x.again(15, 1, 15, 0), x.again(15, 1, 15, 1), 1, 1L << 60);
        Due.fraction("half of 15", x.again(15, 8, 8, 0), x.again(15, 8, 8, 1), 1, 2);
    }

    private static void againRefuses() {
        WallMarks x = new WallMarks();
        int[][] wrong = {
            {0, 1, 1, 0}, {16, 1, 1, 0}, {1, -1, 1, 0}, {1, 17, 1, 0}, {1, 1, -1, 0}, {1, 1, 16, 0}, {1, 1, 1, -1},
            {1, 1, 1, 2}};
        for (int[] w : wrong) {
            Due.is("again wrong", x.again(w[0], w[1], w[2], w[3]), Due.BAD);
        }
    }

    private static void lasts() {
        WallMarks x = new WallMarks();
        int[][] due = {
            {8, 127, 0}, {8, 128, 1}, {8, 191, 1}, {8, 192, 2}, {8, 240, 4}, {8, 255, 8}, {8, 256, 15},
            {0, 0, 15}, {16, 255, 0}, {16, 256, 15}, {1, 0, 0}, {1, 15, 0}, {1, 16, 1}, {4, 64, 1}, {4, 111, 1},
            {4, 112, 2}, {15, 239, 0}, {15, 240, 1}, {15, 254, 1}, {15, 255, 2}};
        for (int[] d : due) {
            Due.is("lasts " + d[0] + " " + d[1], x.lasts(d[0], d[1]), d[2]);
        }
        int[][] wrong = {{-1, 0}, {17, 0}, {0, -1}, {0, 257}};
        for (int[] w : wrong) {
            Due.is("lasts wrong", x.lasts(w[0], w[1]), -2);
        }
    }

    private static void next() {
        WallMarks x = Due.withLevels(5, 9);
        // Old ones O, those to come N: NNOO, NONO, NOON, ONNO, ONON, OONN from the greatest on.
        Due.fraction("none over the first", x.next(2, 1, 0, 0), x.next(2, 1, 0, 1), 1, 2);
        Due.fraction("one over the first", x.next(2, 1, 1, 0), x.next(2, 1, 1, 1), 1, 3);
        Due.fraction("both over the first", x.next(2, 1, 2, 0), x.next(2, 1, 2, 1), 1, 6);
        Due.fraction("none over the second", x.next(2, 2, 0, 0), x.next(2, 2, 0, 1), 1, 6);
        Due.fraction("both over the second", x.next(2, 2, 2, 0), x.next(2, 2, 2, 1), 1, 2);
        int[] twenty = new int[20];
        WallMarks y = Due.withLevels(twenty);
        Due.fraction("20 and 20", y.next(20, 20, 0, 0), y.next(20, 20, 0, 1), 1, 137846528820L);
        Due.fraction("like levels", y.next(20, 20, 20, 0), y.next(20, 20, 20, 1), 1, 2);
    }

    private static void nextAddsUpToOne() {
        WallMarks x = Due.withLevels(1, 2, 3, 4, 5, 6, 7);
        for (int s = 1; s <= 7; s++) {
            double sum = 0;
            for (int k = 0; k <= 6; k++) {
                sum += (double) x.next(6, s, k, 0) / x.next(6, s, k, 1);
            }
            Due.yes("all chances of s " + s, Math.abs(sum - 1) < 1e-9);
        }
    }

    private static void nextRefuses() {
        WallMarks x = Due.withLevels(new int[21]);
        int[][] wrong = {
            {0, 1, 0, 0}, {21, 1, 0, 0}, {1, 0, 0, 0}, {1, 61, 0, 0}, {1, 1, -1, 0}, {1, 1, 2, 0}, {1, 1, 0, -1},
            {1, 1, 0, 2}};
        for (int[] w : wrong) {
            Due.is("next wrong", x.next(w[0], w[1], w[2], w[3]), Due.BAD);
        }
        Due.is("full", x.next(1, 21, 0, 0), Due.FULL);
        Due.is("not goes ahead of full", x.next(1, 22, 0, 0), Due.NOT);
        Due.is("the last s", x.next(1, 60, 0, 0), Due.NOT);
        x.set(2, 19);
        Due.is("twenty count", x.next(1, 20, 0, 1), 21);
        Due.is("fewer than s", x.next(1, 21, 0, 0), Due.NOT);
        x.set(1, 40);
        Due.is("none counts", x.next(1, 1, 0, 0), Due.NOT);
    }

    private static void between() {
        WallMarks x = Due.withLevels(7, 7, 7);
        Due.fraction("1 of 3", x.between(8, 1, 2, 0), x.between(8, 1, 2, 1), 3, 8);
        Due.fraction("1 or 2 of 3", x.between(8, 1, 3, 0), x.between(8, 1, 3, 1), 3, 4);
        Due.fraction("2 of 3", x.between(4, 2, 3, 0), x.between(4, 2, 3, 1), 9, 64);
        Due.fraction("never", x.between(0, 1, 3, 0), x.between(0, 1, 3, 1), 0, 1);
        Due.fraction("always all", x.between(16, 1, 3, 0), x.between(16, 1, 3, 1), 0, 1);
        WallMarks y = Due.withLevels(new int[15]);
        Due.fraction("1 of 15", y.between(8, 1, 2, 0), y.between(8, 1, 2, 1), 15, 32768);
        Due.fraction("1 to 14 of 15", y.between(8, 1, 15, 0), y.between(8, 1, 15, 1), 16383, 16384);
    }

    private static void betweenRefuses() {
        WallMarks x = Due.withLevels(new int[16]);
        int[][] wrong = {
            {-1, 1, 2, 0}, {17, 1, 2, 0}, {1, 0, 2, 0}, {1, 2, 2, 0}, {1, 3, 2, 0}, {1, 1, 61, 0}, {1, 60, 61, 0},
            {1, 1, 2, -1}, {1, 1, 2, 2}};
        for (int[] w : wrong) {
            Due.is("between wrong", x.between(w[0], w[1], w[2], w[3]), Due.BAD);
        }
        Due.is("full", x.between(1, 1, 16, 0), Due.FULL);
        Due.is("not goes ahead of full", x.between(1, 1, 17, 0), Due.NOT);
        Due.is("the last j", x.between(1, 59, 60, 0), Due.NOT);
        x.set(2, 14);
        Due.is("fifteen count", x.between(16, 14, 15, 1), 1);
        Due.is("fewer than j", x.between(1, 1, 16, 0), Due.NOT);
    }
}
