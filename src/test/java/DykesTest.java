/** Promises 26 to 28: dyke, best, sure. */
public final class DykesTest {
    private DykesTest() {
    }

    public static void main(String[] args) {
        dyke();
        best();
        bestOfLikeOnes();
        sure();
        Due.end();
    }

    private static void dyke() {
        WallMarks x = Due.withLevels(100, 200);
        x.tell(2, 1, 150, 0);
        // RARE is 2/3 up to 100, 1/3 up to 149, 1/4 up to 200, then 0; HARM times SPAN is 25000.
        Due.fraction("dyke 0", x.dyke(0, 0), x.dyke(0, 1), 50000, 3);
        Due.fraction("dyke 100", x.dyke(100, 0), x.dyke(100, 1), 50300, 3);
        Due.fraction("dyke 101", x.dyke(101, 0), x.dyke(101, 1), 25303, 3);
        Due.fraction("dyke 150", x.dyke(150, 0), x.dyke(150, 1), 6400, 1);
        Due.fraction("dyke 201", x.dyke(201, 0), x.dyke(201, 1), 201, 1);
        Due.fraction("dyke 999", x.dyke(999, 0), x.dyke(999, 1), 999, 1);
        x.set(3, 0);
        Due.fraction("dyke for nothing", x.dyke(999, 0), x.dyke(999, 1), 0, 1);
        x.set(4, 3);
        x.set(5, 2);
        Due.fraction("dyke of other settings", x.dyke(150, 0), x.dyke(150, 1), 3, 2);
        int[][] wrong = {{-1, 0}, {1000, 0}, {0, -1}, {0, 2}};
        for (int[] w : wrong) {
            Due.is("dyke wrong", x.dyke(w[0], w[1]), Due.BAD);
        }
    }

    private static void best() {
        WallMarks x = Due.withLevels(100, 200);
        Due.is("above the greatest", x.best(), 201);
        x.set(4, 1);
        Due.is("harm is small", x.best(), 0);
        x.set(4, 500);
        x.set(3, 99);
        // 16666 2/3 at 0; 8333 1/3 and 9999 at 101; 19899 at 201.
        Due.is("price is great", x.best(), 0);
        x.set(3, 81);
        // 16666 2/3 at 0; 8333 1/3 and 8181 at 101; 16281 at 201.
        Due.is("price is less", x.best(), 201);
        WallMarks w = Due.withLevels(10, 900, 10);
        w.set(3, 10);
        // 18750 at 0; 6250 and 110 at 11; 9010 at 901.
        Due.is("one of three is kept out no more", w.best(), 11);
        WallMarks v = Due.withLevels(200, 100);
        v.set(3, 81);
        Due.is("the lower costs more", v.best(), 201);
        Due.is("the last level", Due.withLevels(998).best(), 999);
        Due.is("of none", new WallMarks().best(), 0);
        WallMarks y = Due.withLevels(999, 1);
        Due.is("999 cannot be kept out", y.best(), 2);
        WallMarks z = Due.withLevels(300);
        z.set(4, 10);
        z.tell(1, 1, 50, 0);
        z.tell(2, 1, 60, 0);
        // RARE of 0 is 1/2, of 50 it is 1/3, of 60 1/4: 250, 50 and 166 2/3, 60 and 125.
        Due.is("known to have been less", z.best(), 60);
    }

    private static void bestOfLikeOnes() {
        WallMarks x = Due.withLevels(100, 200);
        x.set(3, 0);
        Due.is("the least that costs nothing", x.best(), 201);
        x.set(4, 0);
        Due.is("all cost nothing", x.best(), 0);
        WallMarks y = Due.withLevels(99);
        y.set(4, 4);
        // 100 at 0 (RARE is 1/2), 100 at 100.
        Due.is("of like ones the least", y.best(), 0);
        WallMarks z = Due.withLevels(19, 9, 9);
        z.set(4, 1);
        z.set(5, 40);
        // 30 at 0; 10 and 10 at 10; 20 at 20.
        Due.is("of like ones the least, known later", z.best(), 10);
    }

    private static void sure() {
        WallMarks x = Due.withLevels(100, 200);
        x.set(2, 3);
        x.tell(2, 1, 150, 0);
        // MOST RARE is 4/5, 3/5 from 101 on, 2/5 from 150 on, 1/5 from 201 on.
        int[][] due = {{100, 0}, {80, 0}, {79, 101}, {60, 101}, {59, 150}, {40, 150}, {39, 201}, {20, 201}, {19, -1}, {0, -1}};
        for (int[] d : due) {
            Due.is("sure " + d[0], x.sure(d[0]), d[1]);
        }
        Due.is("sure -1", x.sure(-1), -2);
        Due.is("sure 101", x.sure(101), -2);
        x.set(1, 20);
        Due.is("of none", x.sure(0), 0);
        WallMarks y = Due.withLevels(999, 5);
        y.set(2, 1);
        Due.is("999 stays over", y.sure(33), -1);
        Due.is("999 stays over", y.sure(34), 6);
        WallMarks w = Due.withLevels(0);
        w.set(2, 0);
        Due.is("level 0 is over 0", w.sure(50), 0);
        Due.is("level 0 is over 0", w.sure(49), 1);
        WallMarks z = Due.withLevels(998);
        z.set(2, 0);
        Due.is("the last level", z.sure(0), 999);
    }
}
