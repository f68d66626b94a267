/** Holds answers against those that are due, and ends a test with exit code 1 if one differs. */
final class Due {
    static final long LEAST = Long.MIN_VALUE;
    static final long BAD = LEAST + 2, NOT = LEAST + 3, FULL = LEAST + 4;
    static final int NULL = -11, INDEX = -12, CAST = -13, STORE = -14, SIZE = -15;

    private static int wrong = 0;
    private static int asked = 0;

    private Due() {
    }

    static void is(String call, long got, long want) {
        asked++;
        if (got != want) {
            wrong++;
            if (wrong <= 50) {
                System.out.println(call + " answered " + got + ", due is " + want);
            }
        }
    }

    /** Both parts of a fraction; above is asked first. */
    static void fraction(String call, long gotAbove, long gotBelow, long above, long below) {
        is(call + " above", gotAbove, above);
        is(call + " below", gotBelow, below);
    }

    static void yes(String what, boolean holds) {
        is(what, holds ? 1 : 0, 1);
    }

    static void end() {
        System.out.println(wrong == 0 ? asked + " answers are as due" : wrong + " answers are not as due");
        if (wrong != 0) {
            System.exit(1);
        }
    }

    /** An object of which these LEVELS are told, from YEAR 0 on at TIME 0. */
    static WallMarks withLevels(int... levels) {
        WallMarks x = new WallMarks();
        for (int year = 0; year < levels.length; year++) {
            x.tell(year, 0, levels[year], 0);
        }
        return x;
    }

    /** What was typed goes; this text comes. */
    static void typeAnew(WallMarks x, String text) {
        x.wipe();
        for (int i = 0; i < text.length(); i++) {
            x.type(text.charAt(i));
        }
    }
}
