import java.util.ArrayList;
import java.util.Arrays;
import java.util.Collections;
import java.util.List;
import java.util.Random;
import java.util.TreeSet;

/**
 * Every call with every mix of numbers at its edges: both ends of an int, one below the least that it takes, the least,
 * some between, the greatest, one above; in every state of States. It answers, and leaves, what PlainMarks does.
 */
public final class EdgesTest {
    private static final String[] STATES = {"new", "some", "late", "none counts", "full"};

    /** What each number of a call may be; behind a + further ones to try. */
    private static final String[] CALLS_AND_RANGES = {
        "tell 0..59 0..2 0..999 0..999+9+10+11+500", "read 0..3 0..59 0..999+10+500", "watch 0..59 0..59 1..999",
        "set 0..5 0..9999+59+60+99+100+999+1000", "known 0..59 0..1", "over 0..999+180+200+201+320+400+401 0..2",
        "rare 0..999+200+320+400+401 0..3 0..1", "soRare 0..100+10+20+50", "rank 0..59+4+5", "again 1..15 0..16 0..15 0..1",
        "lasts 0..16 0..256+16+128", "next 1..20 1..60+3+5 0..20+3 0..1", "between 0..16+8 1..60+3+5 1..60+3+5 0..1",
        "records 0..3", "rises", "change 0..59+4+5 0..1", "changed 0..1", "sister 0..59 -1..999", "common 0..1",
        "filled 0..59+7+8 0..2", "type 0..255", "wipe", "fault", "flow 0..999+100+200 0..1", "dyke 0..999+400+401 0..1",
        "best", "sure 0..100+20+50", "sheet 0..3 0..2 0..60", "lose 0..3", "lay 0..3 0..2 0..59+3+4 -128..127",
        "lay 2..3 0..2 0..2 -32768..32767", "get 0..3 0..2 0..59+3+4", "copy 0..3 0..8 0..3 0..8 0..3", "write 0..59 0..3",
        "count 0..8", "digest"};

    private EdgesTest() {
    }

    public static void main(String[] args) {
        for (String state : STATES) {
            for (String call : CALLS_AND_RANGES) {
                mixes(state, call);
            }
        }
        Due.end();
    }

    private static int[] edges(String range) {
        String[] parts = range.split("\\+");
        String[] ends = parts[0].split("\\.\\.");
        int least = Integer.parseInt(ends[0]);
        int greatest = Integer.parseInt(ends[1]);
        TreeSet<Integer> edges = new TreeSet<>(List.of(Integer.MIN_VALUE, Integer.MAX_VALUE));
        for (int step = -1; step <= 1; step++) {
            edges.add(least + step);
            edges.add(greatest + step);
        }
        for (int i = 1; i < parts.length; i++) {
            edges.add(Integer.parseInt(parts[i]));
        }
        return edges.stream().mapToInt(edge -> edge).toArray();
    }

    private static List<int[]> tuples(String[] words) {
        List<int[]> tuples = new ArrayList<>();
        tuples.add(new int[0]);
        for (int w = 1; w < words.length; w++) {
            List<int[]> longer = new ArrayList<>();
            for (int[] tuple : tuples) {
                for (int edge : edges(words[w])) {
                    int[] more = Arrays.copyOf(tuple, tuple.length + 1);
                    more[tuple.length] = edge;
                    longer.add(more);
                }
            }
            tuples = longer;
        }
        return tuples;
    }

    /** In an order that is the same each time, by objects that are made anew before their 512 calls are used up. */
    private static void mixes(String state, String call) {
        String[] words = call.split(" ");
        List<int[]> tuples = tuples(words);
        Collections.shuffle(tuples, new Random(60));
        int next = 0;
        while (next < tuples.size()) {
            WallMarks x = new WallMarks();
            PlainMarks y = new PlainMarks();
            int left = 512 - States.make(state, x) - States.CALLS_TO_TELL;
            States.make(state, y);
            for (; left > 0 && next < tuples.size(); left--, next++) {
                int[] numbers = tuples.get(next);
                Due.is(state + ": " + Calls.text(words[0], numbers), Calls.on(x, words[0], numbers),
                    Calls.on(y, words[0], numbers));
            }
            Due.yes(state + ": what " + words[0] + " leaves", Arrays.equals(States.told(x), States.told(y)));
        }
    }
}
