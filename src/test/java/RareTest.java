/** Promises 7 to 10: over, rare, soRare, rank. */
public final class RareTest {
    private RareTest() {
    }

    public static void main(String[] args) {
        over();
        rare();
        rareOfNone();
        soRare();
        rank();
        Due.end();
    }

    /** EXACT 100, 200, 200, 300 (in 0 to 3), BELOW 150 (4) and 250 (5), OPEN 6 to 9; the others do not count. */
    private static WallMarks ten() {
        WallMarks x = Due.withLevels(100, 200, 200, 300);
        x.tell(4, 1, 150, 0);
        x.watch(5, 5, 250);
        x.tell(10, 0, 999, 0);
        x.tell(11, 1, 1, 0);
        x.set(2, 9);
        return x;
    }

    private static void over() {
        WallMarks x = ten();
        int[][] due = {
            {0, 4, 0}, {100, 4, 0}, {101, 3, 1}, {149, 3, 1}, {150, 3, 2}, {200, 3, 2}, {201, 1, 4},
            {249, 1, 4}, {250, 1, 5}, {300, 1, 5}, {301, 0, 6}, {999, 0, 6}};
        for (int[] d : due) {
            Due.is("over " + d[0], x.over(d[0], 0), d[1]);
            Due.is("under " + d[0], x.over(d[0], 1), d[2]);
            Due.is("dark " + d[0], x.over(d[0], 2), 10 - d[1] - d[2]);
        }
        int[][] wrong = {{-1, 0}, {1000, 0}, {0, -1}, {0, 3}};
        for (int[] w : wrong) {
            Due.is("over wrong", x.over(w[0], w[1]), -2);
        }
        x.set(1, 3);
        Due.is("from 3 on", x.over(300, 0), 1);
        Due.is("from 3 on", x.over(200, 0), 1);
    }

    private static void rare() {
        WallMarks x = ten();
        Due.fraction("rare 200", x.rare(200, 0, 0), x.rare(200, 0, 1), 1, 2);
        Due.fraction("least rare 200", x.rare(200, 1, 0), x.rare(200, 1, 1), 3, 11);
        Due.fraction("most rare 200", x.rare(200, 2, 0), x.rare(200, 2, 1), 8, 11);
        Due.fraction("return 200", x.rare(200, 3, 0), x.rare(200, 3, 1), 2, 1);
        Due.fraction("return 300", x.rare(300, 3, 0), x.rare(300, 3, 1), 7, 1);
        Due.fraction("return 100", x.rare(100, 3, 0), x.rare(100, 3, 1), 5, 4);
        Due.fraction("rare 301", x.rare(301, 0, 0), x.rare(301, 0, 1), 0, 1);
        Due.fraction("least rare 301", x.rare(301, 1, 0), x.rare(301, 1, 1), 0, 1);
        Due.fraction("most rare 301", x.rare(301, 2, 0), x.rare(301, 2, 1), 4, 11);
        Due.is("return 301", x.rare(301, 3, 0), Due.NOT);
        Due.is("return 301", x.rare(301, 3, 1), Due.NOT);
        int[][] wrong = {{-1, 0, 0}, {1000, 0, 0}, {0, -1, 0}, {0, 4, 0}, {0, 0, -1}, {0, 0, 2}, {301, 3, 2}};
        for (int[] w : wrong) {
            Due.is("rare wrong", x.rare(w[0], w[1], w[2]), Due.BAD);
        }
    }

    private static void rareOfNone() {
        WallMarks x = ten();
        x.set(1, 30);
        for (int which = 0; which <= 2; which++) {
            Due.fraction("rare of none", x.rare(5, which, 0), x.rare(5, which, 1), 0, 1);
        }
        Due.is("return of none", x.rare(5, 3, 0), Due.NOT);
    }

    private static void soRare() {
        WallMarks x = ten();
        // RARE of 100 is 4/5, of 200 it is 3/6, of 300 1/7.
        int[][] due = {{0, 300}, {14, 300}, {15, 200}, {50, 200}, {51, 100}, {80, 100}, {81, -1}, {100, -1}};
        for (int[] d : due) {
            Due.is("so rare " + d[0], x.soRare(d[0]), d[1]);
        }
        Due.is("so rare -1", x.soRare(-1), -2);
        Due.is("so rare 101", x.soRare(101), -2);
        Due.is("so rare of none", new WallMarks().soRare(0), -1);
        Due.is("so rare level 0", Due.withLevels(0).soRare(50), 0);
        Due.is("so rare level 0", Due.withLevels(0).soRare(51), -1);
        WallMarks y = Due.withLevels(new int[50]);
        Due.is("50 of 51", y.soRare(98), 0);
        Due.is("50 of 51", y.soRare(99), -1);
    }

    private static void rank() {
        WallMarks x = ten();
        int[] due = {4, 2, 2, 1, -3, -3, -3, -3, -3, -3, -3, -3};
        for (int year = 0; year < due.length; year++) {
            Due.is("rank " + year, x.rank(year), due[year]);
        }
        WallMarks y = Due.withLevels(5, 6, 6, 4);
        Due.is("rank by one level", y.rank(0), 3);
        Due.is("rank of two alike", y.rank(2), 1);
        Due.is("rank -1", x.rank(-1), -2);
        Due.is("rank 60", x.rank(60), -2);
        x.set(2, 10);
        Due.is("rank of the greatest level", x.rank(10), 1);
        Due.is("rank below it", x.rank(3), 2);
        x.set(1, 3);
        Due.is("rank ahead of those that count", x.rank(2), -3);
    }
}
