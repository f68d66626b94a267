import java.util.Random;

/** No call throws or fails to end, for any arguments in any state; numbers that no act allows change nothing. */
public final class NeverThrowsTest {
    private static final int[] EDGES = {
        Integer.MIN_VALUE, Integer.MIN_VALUE + 1, -1000, -61, -60, -2, -1, 0, 1, 2, 3, 4, 5, 6, 7, 15, 16, 17, 20, 21,
        48, 58, 59, 60, 61, 100, 101, 255, 256, 257, 998, 999, 1000, 9999, 10000, 65536, Integer.MAX_VALUE - 1,
        Integer.MAX_VALUE};

    private NeverThrowsTest() {
    }

    public static void main(String[] args) {
        Random random = new Random(59);
        for (int run = 0; run < 300; run++) {
            WallMarks x = new WallMarks();
            for (int call = 0; call < 512; call++) {
                anyCall(x, random);
            }
            Due.is("digest of run " + run, x.digest(), SheetsTest.digestOf(x));
        }
        fullest();
        refusalsChangeNothing();
        Due.end();
    }

    private static int any(Random random) {
        return random.nextInt(2) == 0 ? EDGES[random.nextInt(EDGES.length)] : random.nextInt(61);
    }

    private static void anyCall(WallMarks x, Random r) {
        switch (r.nextInt(35)) {
            case 0: x.tell(any(r), any(r), any(r), any(r)); break;
            case 1: x.read(any(r), any(r), any(r)); break;
            case 2: x.watch(any(r), any(r), any(r)); break;
            case 3: x.set(any(r), any(r)); break;
            case 4: x.known(any(r), any(r)); break;
            case 5: x.over(any(r), any(r)); break;
            case 6: x.rare(any(r), any(r), any(r)); break;
            case 7: x.soRare(any(r)); break;
            case 8: x.rank(any(r)); break;
            case 9: x.again(any(r), any(r), any(r), any(r)); break;
            case 10: x.lasts(any(r), any(r)); break;
            case 11: x.next(any(r), any(r), any(r), any(r)); break;
            case 12: x.between(any(r), any(r), any(r), any(r)); break;
            case 13: x.records(any(r)); break;
            case 14: x.rises(); break;
            case 15: x.change(any(r), any(r)); break;
            case 16: x.changed(any(r)); break;
            case 17: x.sister(any(r), any(r)); break;
            case 18: x.common(any(r)); break;
            case 19: x.filled(any(r), any(r)); break;
            case 20: x.type(any(r)); break;
            case 21: x.fault(); break;
            case 22: x.flow(any(r), any(r)); break;
            case 23: x.dyke(any(r), any(r)); break;
            case 24: x.best(); break;
            case 25: x.sure(any(r)); break;
            case 26: x.sheet(any(r), any(r), any(r)); break;
            case 27: x.lose(any(r)); break;
            case 28: x.lay(any(r), any(r), any(r), any(r)); break;
            case 29: x.get(any(r), any(r), any(r)); break;
            case 30: x.copy(any(r), any(r), any(r), any(r), any(r)); break;
            case 31: x.write(any(r), any(r)); break;
            case 32: x.count(any(r)); break;
            case 33: x.tell(r.nextInt(60), r.nextInt(3), r.nextInt(1000), r.nextInt(9)); break;
            default: x.type("0123456789:;".charAt(r.nextInt(12))); break;
        }
    }

    /** The greatest numbers that can come together, where products are greatest. */
    private static void fullest() {
        WallMarks x = new WallMarks();
        for (int year = 0; year < 60; year++) {
            x.tell(year, 0, year < 59 ? 999 : 0, 0);
            x.sister(year, year < 59 ? 999 : 1);
        }
        x.set(3, 99);
        x.set(4, 9999);
        x.set(5, 99);
        Due.is("rises", x.rises(), -59);
        Due.is("changed", x.changed(0), 59);
        Due.is("change", x.change(59, 0), -999);
        // 60 are over at 0, 59 from 1 on.
        Due.is("dyke above", x.dyke(0, 0), 9999L * 99 * 60);
        Due.is("dyke below", x.dyke(0, 1), 61);
        Due.is("dyke 999", x.dyke(999, 0), 99L * 999 * 61 + 9999L * 99 * 59);
        Due.is("best", x.best(), 1);
        x.tell(58, 2, 0, 0);
        x.sister(58, 999);
        Due.is("filled", x.filled(58, 0), 998);
        Due.is("filled", x.filled(58, 1), 0);
        Due.is("filled", x.filled(58, 2), 999);
        x.tell(0, 0, 999, 0);
        x.sister(0, 1);
        Due.is("the greatest ratio", x.filled(58, 2), 998001);
    }

    private static void refusalsChangeNothing() {
        WallMarks x = Due.withLevels(120, 340, 560, 80);
        x.sheet(0, 2, 4);
        x.sister(0, 5);
        Due.typeAnew(x, "1:1;2:2");
        long before = x.digest();
        for (int edge : EDGES) {
            if (edge < -1 || edge > 9999) {
                x.tell(edge, 0, 0, 0);
                x.tell(0, edge, 0, 0);
                x.tell(0, 0, edge, 0);
                x.tell(0, 0, 0, edge);
                x.read(edge, 0, 0);
                x.read(0, edge, 0);
                x.read(0, 0, edge);
                x.watch(edge, 0, 1);
                x.watch(0, edge, 1);
                x.watch(0, 0, edge);
                x.set(edge, 0);
                x.set(4, edge);
                x.sister(edge, 0);
                x.sister(0, edge);
                x.type(edge);
                x.sheet(0, 0, edge);
                x.sheet(0, edge, 0);
                x.lay(0, 2, edge, 9);
                x.lay(0, edge, 0, 9);
                x.copy(0, edge, 0, 0, 1);
                x.copy(0, 0, 0, edge, 1);
                x.copy(0, 0, 0, 0, edge);
                x.write(edge, 0);
                x.write(0, edge);
                x.lose(edge);
            }
        }
        Due.is("digest", x.digest(), before);
        for (int i = 0; i < 4; i++) {
            Due.is("item " + i, x.get(0, 2, i), 0);
        }
        Due.is("items", x.lose(0), 4);
    }
}
