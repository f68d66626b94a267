import java.lang.reflect.Method;
import java.lang.reflect.Modifier;
import java.util.Arrays;
import java.util.Random;

/** No call throws or fails to end, for any numbers in any state; the greatest numbers that can come together. */
public final class NeverThrowsTest {
    private static final int[] EDGES = {
        Integer.MIN_VALUE, Integer.MIN_VALUE + 1, -1000, -61, -60, -2, -1, 0, 1, 2, 3, 4, 5, 6, 7, 15, 16, 17, 20, 21,
        48, 58, 59, 60, 61, 100, 101, 255, 256, 257, 998, 999, 1000, 9999, 10000, 65536, Integer.MAX_VALUE - 1,
        Integer.MAX_VALUE};

    private static final String[] NAMES = Arrays.stream(WallMarks.class.getDeclaredMethods())
        .filter(m -> Modifier.isPublic(m.getModifiers())).map(Method::getName).sorted().toArray(String[]::new);

    private NeverThrowsTest() {
    }

    public static void main(String[] args) {
        Random random = new Random(59);
        for (int run = 0; run < 500; run++) {
            WallMarks x = new WallMarks();
            PlainMarks y = new PlainMarks();
            for (int call = 1; call < 512; call++) {
                anyCall(x, y, random);
            }
            Due.is("digest of run " + run, x.digest(), y.digest());
        }
        fullest();
        Due.end();
    }

    private static int any(Random random) {
        return random.nextInt(2) == 0 ? EDGES[random.nextInt(EDGES.length)] : random.nextInt(61);
    }

    /** Any call with any numbers, but now and then one that brings something in. */
    private static void anyCall(WallMarks x, PlainMarks y, Random r) {
        switch (r.nextInt(16)) {
            case 0:
                same(x, y, "tell", r.nextInt(60), r.nextInt(3), r.nextInt(1000), r.nextInt(9));
                break;
            case 1:
                same(x, y, "type", "0123456789:;".charAt(r.nextInt(12)));
                break;
            default:
                String name = NAMES[r.nextInt(NAMES.length)];
                int[] numbers = new int[Calls.method(WallMarks.class, name).getParameterCount()];
                for (int i = 0; i < numbers.length; i++) {
                    numbers[i] = any(r);
                }
                same(x, y, name, numbers);
                break;
        }
    }

    private static void same(WallMarks x, PlainMarks y, String name, int... numbers) {
        Due.is(Calls.text(name, numbers), Calls.on(x, name, numbers), Calls.on(y, name, numbers));
    }

    /** The greatest numbers that can come together, where products are greatest. */
    private static void fullest() {
        WallMarks x = new WallMarks();
        for (int year = 0; year < 60; year++) {
            x.tell(year, 0, year < 59 ? 999 : 0, 0);
            x.sister(year, year < 59 ? 999 : 1);
        }
        x.set(3, 99);
        x.set(4, 9999);
        x.set(5, 99);
        Due.is("rises", x.rises(), -59);
        Due.is("changed", x.changed(0), 59);
        Due.is("change", x.change(59, 0), -999);
        // 60 are over at 0, 59 from 1 on.
        Due.is("dyke above", x.dyke(0, 0), 9999L * 99 * 60);
        Due.is("dyke below", x.dyke(0, 1), 61);
        Due.is("dyke 999", x.dyke(999, 0), 99L * 999 * 61 + 9999L * 99 * 59);
        Due.is("best", x.best(), 1);
        x.tell(58, 2, 0, 0);
        x.sister(58, 999);
        Due.is("filled", x.filled(58, 0), 998);
        Due.is("filled", x.filled(58, 1), 0);
        Due.is("filled", x.filled(58, 2), 999);
        x.tell(0, 0, 999, 0);
        x.sister(0, 1);
        Due.is("the greatest ratio", x.filled(58, 2), 998001);
    }
}
