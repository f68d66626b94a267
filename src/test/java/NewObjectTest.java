/** Promise 1, and of every other promise what it answers of a new object: nothing told, watched, typed or laid yet. */
public final class NewObjectTest {
    private NewObjectTest() {
    }

    public static void main(String[] args) {
        told();
        rare();
        chances();
        records();
        sisterAndFlows();
        dykes();
        sheets();
        countsAndDigest();
        settings();
        firstOfEach();
        objectsAreApart();
        Due.end();
    }

    private static void told() {
        WallMarks x = new WallMarks();
        for (int year = 0; year < 60; year++) {
            Due.is("known", x.known(year, 0), 2);
            Due.is("level", x.known(year, 1), -1);
        }
    }

    private static void rare() {
        WallMarks x = new WallMarks();
        int[] levels = {0, 1, 500, 998, 999};
        for (int level : levels) {
            Rows.run(x, "over " + level + " 0 = 0", "over " + level + " 1 = 0", "over " + level + " 2 = 60",
                "rare " + level + " 0 = 0/1", "rare " + level + " 1 = 0/1", "rare " + level + " 2 = 60/61",
                "rare " + level + " 3 0 = NOT", "rare " + level + " 3 1 = NOT");
        }
        Rows.run(x, "soRare 0 = NONE", "soRare 100 = NONE", "rank 0 = NOT", "rank 30 = NOT", "rank 59 = NOT");
    }

    /** AGAIN and LASTS need nothing told, NEXT and BETWEEN do. */
    private static void chances() {
        Rows.run(new WallMarks(), "again 1 8 1 = 1/2", "again 15 1 15 = 1/1152921504606846976", "lasts 8 128 = 1",
            "next 1 1 0 0 = NOT", "next 1 1 0 1 = NOT", "next 20 60 20 0 = NOT", "between 8 1 2 0 = NOT",
            "between 8 59 60 1 = NOT");
    }

    private static void records() {
        Rows.run(new WallMarks(), "records 0 = 0", "records 1 = NONE", "records 2 = 0", "records 3 = 1000000",
            "rises = 0", "change 0 0 = NOT", "change 30 1 = NOT", "change 59 0 = NOT", "changed 0 = NONE",
            "changed 1 = NOT");
    }

    private static void sisterAndFlows() {
        WallMarks x = new WallMarks();
        for (int year = 0; year < 60; year++) {
            Due.is("sister", x.sister(year, -1), -1);
        }
        Rows.run(x, "common 0 = 0", "common 1 = 0", "filled 0 0 = NOT", "filled 30 1 = NOT", "filled 59 2 = NOT",
            "wipe = 0", "fault = 0", "flow 0 0 = NOT", "flow 999 1 = NOT");
        Rows.run(x, "sister 5 7 = NONE", "filled 5 0 = NOT", "filled 5 1 = NOT", "filled 5 2 = NOT");
    }

    /** Nothing is ever over, so a DYKE costs its PRICE alone; 60 of 61 may be. */
    private static void dykes() {
        Rows.run(new WallMarks(), "dyke 0 = 0/1", "dyke 1 = 1/1", "dyke 999 = 999/1", "best = 0", "sure 0 = NONE",
            "sure 98 = NONE", "sure 99 = 0", "sure 100 = 0");
    }

    private static void sheets() {
        WallMarks x = new WallMarks();
        for (int s = 0; s < 4; s++) {
            Rows.run(x, "lose " + s + " = NULL", "lay " + s + " 0 0 0 = NULL", "get " + s + " 0 0 = NULL",
                "write 0 " + s + " = NULL", "read " + s + " 0 0 = NULL", "copy " + s + " 0 " + s + " 0 0 = NULL");
        }
    }

    private static void countsAndDigest() {
        Rows.run(new WallMarks(), "count 0 = 0", "count 1 = 0", "count 2 = 0", "count 3 = 0", "count 4 = 60",
            "count 5 = NONE", "count 6 = 0", "count 7 = 0", "count 8 = 0", "digest = " + new PlainMarks().digest());
    }

    private static void settings() {
        Rows.run(new WallMarks(), "set 0 999 = 999", "set 1 0 = 0", "set 2 59 = 59", "set 3 1 = 1", "set 4 500 = 500",
            "set 5 50 = 50");
    }

    private static void firstOfEach() {
        Rows.run(new WallMarks(), "tell 0 0 0 0 = 1", "watch 0 0 1 = 0", "type 0 = 1", "sheet 0 0 0 = 0", "lose 0 = 0");
        Rows.run(new WallMarks(), "tell 0 0 0 999 = 1", "tell 0 0 0 998 = BAD");
    }

    private static void objectsAreApart() {
        WallMarks one = States.made("full");
        WallMarks other = new WallMarks();
        Due.yes("one that is full leaves another as new",
            java.util.Arrays.equals(States.told(other), States.toldOf("new")));
        Due.is("and is itself still full", one.tell(0, 0, 0, 999), -4);
    }
}
