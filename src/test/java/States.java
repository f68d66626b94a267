import java.util.ArrayList;
import java.util.HashMap;
import java.util.List;
import java.util.Map;

/** States that an object can be in, made by calls, and all that can be seen of a state. */
final class States {
    /** No more than so many calls are made by told(). */
    static final int CALLS_TO_TELL = 270;

    private static final Map<String, long[]> TOLD = new HashMap<>();

    private States() {
    }

    static WallMarks made(String state) {
        WallMarks x = new WallMarks();
        make(state, x);
        return x;
    }

    /** Brings a new object into a state; answers how many calls that took. */
    static int make(String state, Object x) {
        int before = Calls.made();
        switch (state) {
            case "new": break;
            case "some": some(x); break;
            case "late": late(x); break;
            case "none counts": noneCounts(x); break;
            case "full": full(x); break;
            default: throw new AssertionError("no state " + state);
        }
        return Calls.made() - before;
    }

    private static void all(Object x, String... calls) {
        for (String call : calls) {
            String[] words = call.split(" ");
            int[] numbers = new int[words.length - 1];
            for (int i = 0; i < numbers.length; i++) {
                numbers[i] = Integer.parseInt(words[i + 1]);
            }
            Calls.on(x, words[0], numbers);
        }
    }

    /** Some of each: YEARS 0 to 4 are EXACT, 5 to 10 BELOW; SHEETS of shorts, shorts, bytes; the last FINDING is 4. */
    private static void some(Object x) {
        all(x, "tell 0 0 300 0", "tell 1 0 250 0", "tell 2 0 400 0", "tell 3 0 180 0", "tell 4 0 350 10",
            "tell 5 1 200 10", "tell 9 2 0 10", "watch 6 10 320", "sister 0 150", "sister 1 100", "sister 2 0",
            "sister 7 90", "sister 59 999", "sheet 0 1 4", "lay 0 1 0 7", "lay 0 1 1 8", "lay 0 1 3 -1", "sheet 1 1 9",
            "lay 1 1 8 999", "sheet 2 0 3", "lay 2 0 1 -128", "copy 0 0 2 0 1");
        type(x, "100:10;200:40");
    }

    /** As some, but seen from an earlier TIME, and by other SETTINGS. */
    private static void late(Object x) {
        some(x);
        all(x, "set 0 5", "set 1 1", "set 2 30", "set 3 7", "set 4 90", "set 5 3", "tell 8 0 77 20");
    }

    private static void noneCounts(Object x) {
        some(x);
        all(x, "set 1 40", "set 2 20");
    }

    /** No room for TELLINGS (the latest at 500), WATCHES and bytes; all 60 YEARS are EXACT; all SHEETS have 60 ints. */
    private static void full(Object x) {
        for (int i = 0; i < 120; i++) {
            Calls.on(x, "tell", i % 60, 0, i * 37 % 1000, i < 60 ? 3 : 500);
        }
        for (int i = 0; i < 6; i++) {
            Calls.on(x, "watch", i, 59 - i, 900 - i);
        }
        type(x, "1:1;2:2;3:3;4:4;5:5;6:6" + "x".repeat(37));
        for (int s = 0; s < 4; s++) {
            Calls.on(x, "sheet", s, 2, 60);
            Calls.on(x, "lay", s, 2, 59, s + 1);
        }
        Calls.on(x, "sister", 3, 5);
    }

    private static void type(Object x, String text) {
        for (char c : text.toCharArray()) {
            Calls.on(x, "type", c);
        }
    }

    static long[] toldOf(String state) {
        return TOLD.computeIfAbsent(state, s -> told(made(s)));
    }

    /** All that can be seen of an object but its latest FINDING; the object is used up by that. */
    static long[] told(Object x) {
        int before = Calls.made();
        List<Long> seen = new ArrayList<>();
        for (int what = 0; what <= 7; what++) {
            seen.add(Calls.on(x, "count", what));
        }
        seen.add(Calls.on(x, "digest"));
        times(x, seen);
        sheets(x, seen);
        settings(x, seen);
        flows(x, seen);
        for (int year = 0; year < 60; year++) {
            seen.add(Calls.on(x, "sister", year, -1));
        }
        watches(x, seen);
        Due.yes("as few calls as are said", Calls.made() - before <= CALLS_TO_TELL);
        long[] told = new long[seen.size()];
        for (int i = 0; i < told.length; i++) {
            told[i] = seen.get(i);
        }
        return told;
    }

    /** From which TIME on can be told: what is told too early is BAD, also where there is no room. */
    private static void times(Object x, List<Long> seen) {
        for (int time : new int[] {0, 1, 9, 10, 11, 19, 20, 21, 499, 500, 501, 998, 999}) {
            long answer = Calls.on(x, "tell", 0, 2, 0, time);
            seen.add(answer);
            if (answer != -2) {
                return;
            }
        }
    }

    private static void sheets(Object x, List<Long> seen) {
        for (int s = 0; s < 4; s++) {
            for (int form = 0; form <= 2; form++) {
                for (int i : new int[] {0, 1, 2, 3, 8, 59}) {
                    seen.add(Calls.on(x, "get", s, form, i));
                    seen.add(Calls.on(x, "count", 8));
                }
            }
            seen.add(Calls.on(x, "lose", s));
        }
    }

    private static void settings(Object x, List<Long> seen) {
        for (int what = 1; what <= 5; what++) {
            seen.add(Calls.on(x, "set", what, new int[] {0, 0, 59, 1, 500, 50}[what]));
        }
        for (int asOf : new int[] {0, 4, 15, 499, 999}) {
            seen.add(Calls.on(x, "set", 0, asOf));
            seen.add(Calls.on(x, "digest"));
        }
    }

    private static void flows(Object x, List<Long> seen) {
        for (int level : new int[] {0, 150, 999}) {
            seen.add(Calls.on(x, "flow", level, 0));
        }
        seen.add(Calls.on(x, "wipe"));
        seen.add(Calls.on(x, "fault"));
    }

    /** The room that is left for WATCHES. */
    private static void watches(Object x, List<Long> seen) {
        for (int i = 0; i < 7; i++) {
            seen.add(Calls.on(x, "watch", 0, 59, 999));
        }
        seen.add(Calls.on(x, "known", 59, 1));
    }
}
