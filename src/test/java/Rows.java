import java.util.Arrays;

/**
 * Rows of calls as text: "known 5 1 = 200", "rare 300 0 = 3/11" (above and below), "lay 3 0 0 0 = NULL". MIN and MAX
 * are the ends of an int, NONE is -1; a refusal is told by its word.
 */
final class Rows {
    private Rows() {
    }

    /** One row after the other on one object. */
    static void run(Object x, String... rows) {
        for (String row : rows) {
            new Row(row).on(x);
        }
    }

    /** Each row on an object of its own that is in a state: it is refused, and leaves all as it was. */
    static void refused(String state, String... rows) {
        for (String row : rows) {
            new Row(row).refusedIn(state);
        }
    }

    private static final class Row {
        final String text;
        final String name;
        final int[] numbers;
        final String due;

        Row(String text) {
            this.text = text;
            String[] sides = text.split(" = ");
            String[] words = sides[0].split(" ");
            name = words[0];
            numbers = new int[words.length - 1];
            for (int i = 0; i < numbers.length; i++) {
                numbers[i] = (int) number(words[i + 1]);
            }
            due = sides[1];
        }

        private static long number(String word) {
            switch (word) {
                case "MIN": return Integer.MIN_VALUE;
                case "MAX": return Integer.MAX_VALUE;
                case "NONE": return -1;
                default: return Long.parseLong(word);
            }
        }

        private int[] and(int what) {
            int[] all = Arrays.copyOf(numbers, numbers.length + 1);
            all[numbers.length] = what;
            return all;
        }

        void on(Object x) {
            if (due.contains("/")) {
                String[] parts = due.split("/");
                Due.is(text + ": above", Calls.on(x, name, and(0)), number(parts[0]));
                Due.is(text + ": below", Calls.on(x, name, and(1)), number(parts[1]));
            } else if (Calls.WORDS.contains(due)) {
                int before = (int) Calls.on(x, "count", 8);
                int finding = Calls.finding(due);
                Due.is(text, Calls.on(x, name, numbers), Calls.refusal(name, due));
                Due.is(text + ": count 8", Calls.on(x, "count", 8), finding == 0 ? before : finding);
            } else {
                Due.is(text, Calls.on(x, name, numbers), number(due));
            }
        }

        void refusedIn(String state) {
            Due.yes(text + " is a refusal", Calls.WORDS.contains(due));
            WallMarks x = States.made(state);
            on(x);
            Due.yes(state + ": " + text + " leaves all as it was", Arrays.equals(States.told(x), States.toldOf(state)));
        }
    }
}
