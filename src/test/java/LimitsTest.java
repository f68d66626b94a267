/**
 * The least and the greatest number that each call takes, and the last thing that has room: all of these are answered,
 * and the first beyond is not. RefusalsTest has the numbers beyond.
 */
public final class LimitsTest {
    private LimitsTest() {
    }

    public static void main(String[] args) {
        told();
        settings();
        rare();
        chances();
        records();
        sister();
        flows();
        dykes();
        sheets();
        roomForTellings();
        roomForWatches();
        roomForBytes();
        roomForPairs();
        roomForItems();
        roomForExactOnes();
        allYears();
        Due.end();
    }

    private static void told() {
        Rows.run(States.made("some"), "tell 0 0 0 10 = 8", "known 0 0 = 0", "known 0 1 = 0", "tell 59 0 999 10 = 9",
            "known 59 1 = 999", "tell 0 1 1 10 = 10", "known 0 0 = 1", "known 0 1 = 1", "tell 59 1 999 999 = 11",
            "known 59 0 = 1", "known 59 1 = 999", "tell 0 2 MIN 999 = 12", "known 0 0 = 2", "tell 59 2 MAX 999 = 13",
            "known 59 0 = 2", "tell 59 2 MAX 998 = BAD");
        Rows.run(States.made("some"), "read 0 0 10 = 3", "known 0 1 = 7", "known 1 1 = 8", "known 2 1 = 0",
            "read 0 59 999 = 1", "known 59 1 = 7", "read 0 59 998 = BAD", "read 2 0 999 = 1", "read 1 0 999 = 9",
            "known 8 1 = 999");
        Rows.run(States.made("some"), "watch 0 0 1 = 1", "watch 59 59 999 = 2", "known 59 1 = 999", "known 58 0 = 2",
            "watch 0 59 998 = 3", "known 58 1 = 998", "known 59 1 = 998", "watch 59 59 1 = 4", "known 59 1 = 1");
    }

    private static void settings() {
        Rows.run(States.made("some"), "set 0 0 = 999", "known 4 0 = 2", "known 3 0 = 0", "set 0 999 = 0", "known 4 0 = 0",
            "set 1 59 = 0", "count 4 = 1", "set 1 0 = 59", "set 2 0 = 59", "count 2 = 1", "count 4 = 0", "set 2 59 = 0",
            "set 3 0 = 1", "dyke 999 = 0/1", "set 3 99 = 0", "dyke 999 = 98901/1", "set 4 0 = 500", "dyke 0 = 0/1",
            "set 4 9999 = 0", "dyke 0 = 416625/1", "set 5 1 = 50", "dyke 0 = 16665/2", "set 5 99 = 1",
            "dyke 0 = 1649835/2", "set 5 99 = 99");
    }

    private static void rare() {
        Rows.run(States.made("some"), "over 0 0 = 5", "over 0 1 = 0", "over 0 2 = 55", "over 999 0 = 0", "over 999 1 = 11",
            "over 999 2 = 49", "rare 0 0 = 5/6", "rare 999 0 = 0/1", "rare 0 1 = 5/61", "rare 999 1 = 0/1",
            "rare 0 2 = 60/61", "rare 999 2 = 49/61", "rare 0 3 = 6/5", "soRare 0 = 400", "soRare 8 = 400",
            "soRare 9 = 350", "soRare 100 = NONE", "rank 0 = 3", "rank 4 = 2", "tell 59 0 999 10 = 8", "rank 59 = 1",
            "over 999 0 = 1", "rare 999 3 = 13/1");
        Rows.run(Due.withLevels(999, 0), "over 999 0 = 1", "over 999 1 = 1", "over 0 0 = 2", "over 0 1 = 0", "over 1 1 = 1",
            "rank 0 = 1", "rank 1 = 2", "soRare 0 = 999", "soRare 33 = 999", "soRare 34 = 0", "soRare 66 = 0",
            "soRare 67 = NONE");
    }

    private static void chances() {
        WallMarks x = States.made("some");
        Rows.run(x, "again 1 0 0 = 1/1", "again 1 16 0 = 1/1", "again 1 16 1 = 1/1", "again 1 0 1 = 0/1",
            "again 1 16 15 = 0/1", "again 15 0 0 = 1/1", "again 15 0 1 = 0/1", "again 15 16 15 = 1/1",
            "again 15 15 15 = 437893890380859375/1152921504606846976", "lasts 0 0 = 15", "lasts 0 256 = 15",
            "lasts 16 0 = 0", "lasts 16 255 = 0", "lasts 16 256 = 15", "lasts 1 256 = 15", "lasts 1 0 = 0");
        Rows.run(x, "next 1 1 0 = 5/6", "next 1 1 1 = 1/6", "next 1 5 0 = 1/6", "next 1 5 1 = 5/6", "next 20 1 0 = 1/5",
            "next 20 1 20 = 1/53130", "next 20 5 0 = 1/53130", "next 20 5 20 = 1/5");
        Rows.run(x, "between 0 1 2 = 0/1", "between 16 4 5 = 0/1", "between 16 1 5 = 0/1", "between 8 1 2 = 5/32",
            "between 8 4 5 = 5/32", "between 8 1 5 = 15/16", "between 1 4 5 = 75/1048576");
    }

    private static void records() {
        Rows.run(States.made("some"), "records 0 = 2", "records 1 = 2", "records 2 = 2", "records 3 = 800000", "rises = 0",
            "change 1 = -5/1", "change 4 = 135/2", "changed 0 = 4", "changed 1 = 600000", "tell 59 0 0 10 = 8",
            "change 5 = -296/1", "change 59 = -296/1", "changed 0 = 5");
        WallMarks x = new WallMarks();
        Rows.run(x, "tell 58 0 0 0 = 1", "changed 0 = NONE", "tell 59 0 999 0 = 2", "change 59 = 999/1",
            "change 58 0 = NOT", "changed 0 = 59", "records 1 = 59", "records 2 = 1");
        Rows.run(Due.withLevels(999, 0), "change 1 = -999/1", "changed 0 = 1", "changed 1 = 1000000", "rises = -1");
    }

    private static void sister() {
        Rows.run(States.made("some"), "common 0 = 3", "common 1 = -1", "filled 7 0 = 342", "filled 7 1 = 180",
            "filled 7 2 = 225", "filled 59 0 = 3796", "filled 59 2 = 2497", "sister 0 0 = 150", "sister 0 999 = 0",
            "sister 0 -1 = 999", "sister 0 -1 = NONE", "sister 59 -1 = 999", "sister 59 0 = NONE", "sister 59 1 = 0",
            "filled 59 1 = 2", "tell 0 2 0 10 = 8", "sister 0 0 = NONE", "filled 0 0 = 0", "filled 0 1 = 0",
            "filled 0 2 = 0");
    }

    private static void flows() {
        Rows.run(States.made("some"), "fault = NONE", "flow 0 = 0/1", "flow 66 = 0/1", "flow 67 = 1/10", "flow 100 = 10/1",
            "flow 999 = 2797/10", "type 0 = 14", "fault = 13", "type 255 = 15", "fault = 13", "wipe = 15", "fault = 0");
    }

    private static void dykes() {
        Rows.run(States.made("some"), "dyke 0 = 62500/3", "dyke 999 = 999/1", "sure 0 = NONE", "sure 100 = 0",
            "best = 401");
        Rows.run(Due.withLevels(998), "set 2 0 = 59", "best = 999", "sure 0 = 999", "sure 50 = 0", "sure 49 = 999");
        Rows.run(Due.withLevels(999), "set 2 0 = 59", "best = 0", "sure 0 = NONE", "sure 49 = NONE", "sure 50 = 0");
    }

    private static void sheets() {
        Rows.run(States.made("some"), "get 0 1 0 = 7", "get 0 1 3 = -1", "lay 0 1 0 MIN = 1", "get 0 1 0 = 0",
            "lay 0 1 3 MAX = 1", "get 0 1 3 = -1", "copy 0 0 1 0 4 = 1", "get 1 1 3 = -1", "copy 0 3 1 8 1 = 1",
            "get 1 1 8 = -1", "write 0 0 = 4", "get 0 1 3 = 180", "write 59 0 = 1", "get 0 1 0 = -1", "get 0 1 1 = 250",
            "write 0 1 = 9", "lose 0 = 4", "sheet 0 0 0 = 0", "write 0 0 = 0", "lose 0 = 0", "sheet 0 2 60 = 60",
            "get 0 2 0 = 0", "get 0 2 59 = 0", "sheet 3 0 1 = 1", "lay 3 0 0 -129 = 1", "get 3 0 0 = 127", "lose 3 = 1");
        Rows.run(States.made("some"), "count 0 = 7", "count 1 = 1", "count 2 = 5", "count 3 = 6", "count 4 = 49",
            "count 5 = 400", "count 6 = 5", "count 7 = 13", "count 8 = 4");
    }

    /** By tell() and by read(): 120, not one more. */
    private static void roomForTellings() {
        WallMarks x = new WallMarks();
        for (int i = 1; i <= 119; i++) {
            Due.is("tell", x.tell(0, 2, 0, 0), i);
        }
        Rows.run(x, "sheet 0 2 60 = 60", "tell 7 0 77 0 = 120", "tell 8 0 88 0 = FULL", "read 0 8 0 = 0", "count 0 = 120",
            "known 7 1 = 77", "known 8 0 = 2");
        WallMarks y = new WallMarks();
        Rows.run(y, "sheet 0 2 60 = 60", "read 0 0 0 = 60", "read 0 1 0 = 59", "count 0 = 119", "read 0 0 0 = 1",
            "count 0 = 120", "read 0 0 0 = 0", "tell 0 0 0 0 = FULL", "lay 0 2 0 1000 = 1", "read 0 0 0 = 0");
    }

    private static void roomForWatches() {
        WallMarks x = new WallMarks();
        for (int i = 0; i < 6; i++) {
            Due.is("watch", x.watch(i, i, 6 - i), i);
        }
        Rows.run(x, "watch 6 6 1 = FULL", "count 1 = 6", "known 5 1 = 1", "known 6 0 = 2");
    }

    private static void roomForBytes() {
        WallMarks x = new WallMarks();
        for (int i = 1; i <= 60; i++) {
            Due.is("type", x.type(i == 1 ? 'x' : '1'), i);
        }
        Rows.run(x, "type 49 = FULL", "count 7 = 60", "fault = 0", "wipe = 60", "type 49 = 1", "count 7 = 1", "wipe = 1");
    }

    /** One pair is too few, two to six may be, behind six nothing can come. */
    private static void roomForPairs() {
        WallMarks x = new WallMarks();
        StringBuilder text = new StringBuilder("001:001");
        int[] faults = {7, -1, -1, -1, -1, -1, 47};
        for (int pairs = 1; pairs <= 7; pairs++) {
            Due.typeAnew(x, text.toString());
            Due.is(pairs + " pairs", x.fault(), faults[pairs - 1]);
            text.append(";00").append(pairs + 1).append(":00").append(pairs + 1);
        }
        Due.typeAnew(x, "1:1;2:2;3:3;4:4;5:5;");
        Due.is("behind five pairs one may come", x.fault(), 20);
        Due.typeAnew(x, "1:1;2:2;3:3;4:4;5:5;6:9;");
        Due.is("behind six none", x.fault(), 23);
    }

    private static void roomForItems() {
        WallMarks x = new WallMarks();
        Rows.run(x, "sheet 0 0 60 = 60", "lay 0 0 59 -128 = 1", "get 0 0 59 = -128", "lay 0 0 60 1 = INDEX",
            "sheet 0 0 61 = BAD", "get 0 0 59 = -128", "sheet 1 0 60 = 60", "copy 0 0 1 0 60 = 1", "get 1 0 59 = -128",
            "copy 0 0 1 0 61 = INDEX", "copy 0 60 1 60 0 = 1", "copy 0 61 1 0 0 = INDEX", "copy 0 59 1 0 1 = 1",
            "get 1 0 0 = -128", "write 0 0 = 60", "get 0 0 59 = -1", "write 1 0 = 59");
    }

    private static WallMarks withExact(int years) {
        int[] levels = new int[years];
        for (int i = 0; i < years; i++) {
            levels[i] = 10 * i;
        }
        return Due.withLevels(levels);
    }

    /** NEXT takes 20 EXACT ones, BETWEEN 15, HOW LIKELY 14, SHOULD 12. */
    private static void roomForExactOnes() {
        Rows.run(withExact(20), "next 1 1 0 = 20/21", "next 20 20 0 = 1/137846528820", "next 1 20 1 = 20/21",
            "next 1 21 0 0 = NOT");
        Rows.run(withExact(21), "next 1 1 0 0 = FULL", "next 1 21 0 0 = FULL", "next 1 22 0 0 = NOT");
        Rows.run(withExact(15), "between 8 14 15 = 15/32768", "between 16 1 15 = 0/1", "between 8 1 16 0 = NOT");
        Rows.run(withExact(16), "between 8 1 2 0 = FULL", "between 8 15 16 0 = FULL", "between 8 1 17 0 = NOT");
        Rows.run(withExact(14), "changed 0 = 1", "changed 1 = 142857");
        Rows.run(withExact(15), "changed 0 = 1", "changed 1 = FULL");
        Rows.run(withExact(12), "records 3 = 0", "records 0 = 12");
        Rows.run(withExact(13), "records 3 = FULL", "records 0 = 13", "records 1 = 12", "records 2 = 1");
    }

    /** All 60 YEARS of one kind. */
    private static void allYears() {
        WallMarks x = withExact(60);
        Rows.run(x, "count 2 = 60", "count 3 = 0", "count 4 = 0", "count 5 = 590", "over 0 0 = 60", "over 590 0 = 1",
            "over 590 1 = 59", "rare 0 0 = 60/61", "rank 59 = 1", "rank 0 = 60", "records 0 = 60", "rises = 1770",
            "change 59 = 300/1", "best = 591", "sure 98 = 1", "sure 99 = 0", "sure 0 = 591");
        WallMarks y = new WallMarks();
        Rows.run(y, "watch 0 59 9 = 0", "count 2 = 0", "count 3 = 60", "count 4 = 0", "over 8 1 = 0", "over 8 2 = 60",
            "over 9 1 = 60", "over 9 2 = 0", "rare 9 0 = 0/1", "rare 8 2 = 60/61", "rare 9 2 = 0/1", "sure 0 = 9",
            "sure 98 = 9", "sure 99 = 0", "best = 0");
    }
}
