/** Promises 15 to 18: records, rises, change, changed. */
public final class RecordsTest {
    private RecordsTest() {
    }

    public static void main(String[] args) {
        records();
        recordsOfFew();
        recordsTakenBack();
        should();
        rises();
        change();
        changed();
        howLikely();
        Due.end();
    }

    private static void records() {
        WallMarks x = new WallMarks();
        int[][] told = {{2, 50}, {4, 50}, {5, 60}, {6, 10}, {12, 61}, {15, 999}, {20, 999}, {30, 0}};
        for (int[] t : told) {
            x.tell(t[0], 0, t[1], 0);
        }
        x.tell(0, 1, 999, 0);
        Due.is("how many", x.records(0), 4);
        Due.is("the last", x.records(1), 15);
        Due.is("the most years", x.records(2), 7);
        x.set(1, 4);
        Due.is("how many from 4 on", x.records(0), 4);
        x.set(2, 6);
        Due.is("how many to 6", x.records(0), 2);
        Due.is("the last to 6", x.records(1), 5);
        Due.is("the most years to 6", x.records(2), 1);
        WallMarks y = new WallMarks();
        y.tell(2, 0, 0, 0);
        y.tell(9, 0, 0, 0);
        Due.is("a like one is none", y.records(0), 1);
        Due.is("a like one is none", y.records(1), 2);
        Due.is("a like one is none", y.records(2), 0);
        y.tell(12, 0, 1, 0);
        Due.is("from level 0 on", y.records(2), 10);
        Due.is("records -1", x.records(-1), -2);
        Due.is("records 4", x.records(4), -2);
    }

    private static void recordsOfFew() {
        WallMarks x = new WallMarks();
        int[] none = {0, -1, 0, 1000000};
        for (int what = 0; what <= 3; what++) {
            Due.is("none exact " + what, x.records(what), none[what]);
        }
        x.tell(7, 0, 0, 0);
        int[] one = {1, 7, 0, 1000000};
        for (int what = 0; what <= 3; what++) {
            Due.is("one exact " + what, x.records(what), one[what]);
        }
    }

    /** What was a record, and is taken back or counts no more, leaves nothing. */
    private static void recordsTakenBack() {
        WallMarks x = Due.withLevels(5, 0, 9, 0, 0, 12);
        Rows.run(x, "records 0 = 3", "records 1 = 5", "records 2 = 3", "set 1 50 = 0", "records 0 = 0", "records 1 = NONE",
            "records 2 = 0", "records 3 = 1000000", "count 5 = NONE", "rises = 0", "changed 0 = NONE", "set 1 5 = 50",
            "records 0 = 1", "records 1 = 5", "records 2 = 0", "set 1 0 = 5", "tell 5 2 0 1 = 7", "records 0 = 2",
            "records 1 = 2", "records 2 = 2", "tell 0 1 6 1 = 8", "records 0 = 2", "records 1 = 2", "records 2 = 1");
    }

    private static void should() {
        // Of 4 orders' 24: 6 with one RECORD, 11 with two, 6 with three, 1 with four.
        Due.is("one of 4", Due.withLevels(4, 3, 2, 1).records(3), 1000000);
        Due.is("two of 4", Due.withLevels(3, 4, 2, 1).records(3), 750000);
        Due.is("three of 4", Due.withLevels(2, 3, 4, 1).records(3), 291666);
        Due.is("four of 4", Due.withLevels(1, 2, 3, 4).records(3), 41666);
        int[] rising = new int[13];
        for (int i = 0; i < rising.length; i++) {
            rising[i] = i;
        }
        WallMarks x = Due.withLevels(rising);
        Due.is("13 are too many", x.records(3), -4);
        Due.is("but are told", x.records(0), 13);
        Due.is("but are told", x.records(1), 12);
        Due.is("but are told", x.records(2), 1);
        x.set(2, 11);
        Due.is("12 of 12, one in 479001600", x.records(3), 0);
        x.set(2, 9);
        Due.is("10 of 10, one in 3628800", x.records(3), 0);
        x.set(2, 8);
        Due.is("9 of 9, one in 362880", x.records(3), 2);
        Due.is("two of 12: eleven twelfths", Due.withLevels(3, 4, 2, 1, 1, 1, 1, 1, 1, 1, 1, 1).records(3), 916666);
    }

    private static void rises() {
        Due.is("of none", new WallMarks().rises(), 0);
        Due.is("of one", Due.withLevels(4).rises(), 0);
        Due.is("rising", Due.withLevels(1, 2, 3).rises(), 3);
        Due.is("falling", Due.withLevels(3, 2, 1).rises(), -3);
        Due.is("alike", Due.withLevels(2, 2, 2).rises(), 0);
        WallMarks x = Due.withLevels(2, 2, 5, 1);
        Due.is("mixed", x.rises(), -1);
        x.set(1, 1);
        Due.is("from 1 on", x.rises(), -1);
        x.set(2, 2);
        Due.is("1 and 2", x.rises(), 1);
    }

    private static void change() {
        WallMarks x = Due.withLevels(10, 20, 40);
        Due.fraction("at 1", x.change(1, 0), x.change(1, 1), 20, 1);
        Due.fraction("at 2", x.change(2, 0), x.change(2, 1), 25, 1);
        Due.is("at 0", x.change(0, 0), Due.NOT);
        Due.is("at 3", x.change(3, 0), Due.NOT);
        Due.is("at 59", x.change(59, 1), Due.NOT);
        WallMarks y = Due.withLevels(10, 3, 6);
        Due.fraction("falls at 1", y.change(1, 0), y.change(1, 1), -11, 2);
        Due.fraction("falls at 2", y.change(2, 0), y.change(2, 1), -1, 2);
        WallMarks z = Due.withLevels(5, 5);
        Due.fraction("no change", z.change(1, 0), z.change(1, 1), 0, 1);
        int[][] wrong = {{-1, 0}, {60, 0}, {1, -1}, {1, 2}};
        for (int[] w : wrong) {
            Due.is("change wrong", x.change(w[0], w[1]), Due.BAD);
        }
        x.tell(50, 0, 100, 0);
        Due.fraction("at a year of which nothing is told", x.change(40, 0), x.change(40, 1), 230, 3);
        x.set(1, 2);
        Due.is("none that counts is ahead", x.change(2, 0), Due.NOT);
        Due.fraction("from 2 on", x.change(3, 0), x.change(3, 1), 60, 1);
    }

    private static void changed() {
        WallMarks x = new WallMarks();
        Due.is("of none", x.changed(0), -1);
        Due.is("how likely of none", x.changed(1), -3);
        x.tell(10, 0, 100, 0);
        Due.is("of one", x.changed(0), -1);
        x.tell(20, 0, 100, 0);
        Due.is("the first behind the first", x.changed(0), 11);
        Due.is("all are as great as 0", x.changed(1), 1000000);
        x.tell(30, 0, 500, 0);
        Due.is("rises", x.changed(0), 21);
        x.tell(15, 0, 900, 0);
        // Ahead of 11: 100 and 500; of 16: 500 and 300; of 21: 366 2/3 and 500.
        Due.is("the greatest amount", x.changed(0), 11);
        Due.is("changed -1", x.changed(-1), -2);
        Due.is("changed 2", x.changed(2), -2);
        WallMarks y = Due.withLevels(100, 100, 0);
        Due.is("a fall is as good", y.changed(0), 2);
    }

    private static void howLikely() {
        WallMarks x = Due.withLevels(10, 10, 40);
        Due.is("changed", x.changed(0), 2);
        Due.is("one of three choices", x.changed(1), 333333);
        WallMarks w = Due.withLevels(40, 10, 10);
        Due.is("falls", w.changed(0), 1);
        Due.is("one of three choices is as far", w.changed(1), 333333);
        WallMarks y = Due.withLevels(0, 0, 10, 10);
        Due.is("changed", y.changed(0), 2);
        Due.is("two of six choices", y.changed(1), 333333);
        int[] levels = new int[15];
        for (int i = 7; i < levels.length; i++) {
            levels[i] = 900;
        }
        WallMarks z = Due.withLevels(levels);
        Due.is("15 are told", z.changed(0), 7);
        Due.is("15 are too many", z.changed(1), -4);
        z.set(2, 13);
        Due.is("14: two of 3432 choices", z.changed(1), 582);
        z.set(1, 50);
        Due.is("none counts", z.changed(1), -3);
    }
}
