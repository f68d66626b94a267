/**
 * Every refusal of every call: its answer, which goes ahead where two fit (BAD, NULL, NOT, FULL, other FINDINGS), and
 * that it leaves all as it was, but for count() 8 behind a FINDING.
 */
public final class RefusalsTest {
    private RefusalsTest() {
    }

    public static void main(String[] args) {
        tell();
        readAndWatch();
        setAndKnown();
        rare();
        chances();
        records();
        sister();
        flows();
        dykes();
        sheetAndLose();
        layAndGet();
        copy();
        writeAndCount();
        findingStays();
        findingStaysBehindAnyCall();
        Due.end();
    }

    private static void tell() {
        Rows.refused("new", "tell -1 0 5 0 = BAD", "tell 60 0 5 0 = BAD", "tell 0 -1 5 0 = BAD", "tell 0 3 5 0 = BAD",
            "tell 0 0 -1 0 = BAD", "tell 0 0 1000 0 = BAD", "tell 0 1 0 0 = BAD", "tell 0 1 -1 0 = BAD",
            "tell 0 1 1000 0 = BAD", "tell 0 0 5 -1 = BAD", "tell 0 0 5 1000 = BAD", "tell 0 2 0 -1 = BAD",
            "tell 60 2 0 0 = BAD", "tell MIN 0 5 0 = BAD", "tell MAX 0 5 0 = BAD", "tell 0 MIN 5 0 = BAD",
            "tell 0 MAX 5 0 = BAD", "tell 0 0 MIN 0 = BAD", "tell 0 0 MAX 0 = BAD", "tell 0 1 MIN 0 = BAD",
            "tell 0 1 MAX 0 = BAD", "tell 0 0 5 MIN = BAD", "tell 0 0 5 MAX = BAD");
        // The latest was told at 10; a refused one at a later TIME does not bind.
        Rows.refused("some", "tell 0 0 5 9 = BAD", "tell 0 1 5 9 = BAD", "tell 0 2 5 9 = BAD", "tell 0 0 5 0 = BAD",
            "tell 60 0 5 500 = BAD", "tell 0 3 5 500 = BAD", "tell 0 0 1000 500 = BAD", "tell 0 1 0 500 = BAD");
        // An earlier AS OF does not make an earlier TIME fit.
        Rows.refused("late", "tell 0 0 5 19 = BAD", "tell 0 0 5 5 = BAD");
        Rows.refused("full", "tell 0 0 5 500 = FULL", "tell 59 1 999 999 = FULL", "tell 0 2 MIN 500 = FULL",
            "tell 0 0 5 499 = BAD", "tell 60 0 5 500 = BAD", "tell 0 3 5 500 = BAD", "tell 0 0 1000 500 = BAD",
            "tell 0 1 0 500 = BAD", "tell 0 0 5 1000 = BAD");
    }

    private static void readAndWatch() {
        Rows.refused("some", "read -1 0 10 = BAD", "read 4 0 10 = BAD", "read 0 -1 10 = BAD", "read 0 60 10 = BAD",
            "read 0 0 9 = BAD", "read 0 0 -1 = BAD", "read 0 0 1000 = BAD", "read MIN 0 10 = BAD", "read MAX 0 10 = BAD",
            "read 0 MIN 10 = BAD", "read 0 MAX 10 = BAD", "read 0 0 MIN = BAD", "read 0 0 MAX = BAD",
            "read 3 0 10 = NULL", "read 3 59 999 = NULL", "read 3 60 10 = BAD", "read 3 0 9 = BAD", "read 3 0 1000 = BAD");
        Rows.refused("some", "watch -1 30 5 = BAD", "watch 0 60 5 = BAD", "watch 60 60 5 = BAD", "watch -1 -1 5 = BAD",
            "watch 30 29 5 = BAD", "watch 59 0 5 = BAD", "watch 0 0 0 = BAD", "watch 0 0 1000 = BAD", "watch 0 0 -1 = BAD",
            "watch MIN 0 5 = BAD", "watch MAX 0 5 = BAD", "watch 0 MIN 5 = BAD", "watch 0 MAX 5 = BAD",
            "watch 0 0 MIN = BAD", "watch 0 0 MAX = BAD");
        Rows.refused("full", "watch 0 59 1 = FULL", "watch 59 59 999 = FULL", "watch 1 0 1 = BAD", "watch 0 0 0 = BAD",
            "watch 0 60 1 = BAD");
    }

    private static void setAndKnown() {
        Rows.refused("some", "set -1 1 = BAD", "set 6 1 = BAD", "set MIN 1 = BAD", "set MAX 1 = BAD", "set 0 -1 = BAD",
            "set 0 1000 = BAD", "set 1 -1 = BAD", "set 1 60 = BAD", "set 2 -1 = BAD", "set 2 60 = BAD", "set 3 -1 = BAD",
            "set 3 100 = BAD", "set 4 -1 = BAD", "set 4 10000 = BAD", "set 5 0 = BAD", "set 5 -1 = BAD", "set 5 100 = BAD");
        for (int what = 0; what <= 5; what++) {
            Rows.refused("late", "set " + what + " MIN = BAD", "set " + what + " MAX = BAD");
        }
        Rows.refused("some", "known -1 0 = BAD", "known 60 0 = BAD", "known 0 -1 = BAD", "known 0 2 = BAD",
            "known MIN 0 = BAD", "known MAX 0 = BAD", "known 0 MIN = BAD", "known 0 MAX = BAD");
    }

    private static void rare() {
        Rows.refused("some", "over -1 0 = BAD", "over 1000 0 = BAD", "over 0 -1 = BAD", "over 0 3 = BAD",
            "over MIN 0 = BAD", "over MAX 0 = BAD", "over 0 MIN = BAD", "over 0 MAX = BAD");
        Rows.refused("some", "rare -1 0 0 = BAD", "rare 1000 0 0 = BAD", "rare 0 -1 0 = BAD", "rare 0 4 0 = BAD",
            "rare 0 0 -1 = BAD", "rare 0 0 2 = BAD", "rare MIN 0 0 = BAD", "rare MAX 0 0 = BAD", "rare 0 MIN 0 = BAD",
            "rare 0 MAX 0 = BAD", "rare 0 0 MIN = BAD", "rare 0 0 MAX = BAD");
        // The greatest EXACT LEVEL is 400.
        Rows.refused("some", "rare 401 3 0 = NOT", "rare 401 3 1 = NOT", "rare 999 3 0 = NOT", "rare 401 3 2 = BAD",
            "rare 401 3 -1 = BAD", "rare 1000 3 0 = BAD");
        Rows.refused("none counts", "rare 0 3 0 = NOT");
        Rows.run(States.made("some"), "rare 400 3 = 12/1", "rare 401 0 = 0/1", "rare 401 1 = 0/1");
        Rows.refused("some", "soRare -1 = BAD", "soRare 101 = BAD", "soRare MIN = BAD", "soRare MAX = BAD");
        Rows.refused("some", "rank -1 = BAD", "rank 60 = BAD", "rank MIN = BAD", "rank MAX = BAD", "rank 5 = NOT",
            "rank 6 = NOT", "rank 11 = NOT", "rank 59 = NOT");
        Rows.refused("none counts", "rank 0 = NOT", "rank 60 = BAD");
    }

    private static void chances() {
        Rows.refused("some", "again 0 1 1 0 = BAD", "again 16 1 1 0 = BAD", "again 1 -1 1 0 = BAD", "again 1 17 1 0 = BAD",
            "again 1 1 -1 0 = BAD", "again 1 1 16 0 = BAD", "again 1 1 1 -1 = BAD", "again 1 1 1 2 = BAD",
            "again MIN 1 1 0 = BAD", "again MAX 1 1 0 = BAD", "again 1 MIN 1 0 = BAD", "again 1 MAX 1 0 = BAD",
            "again 1 1 MIN 0 = BAD", "again 1 1 MAX 0 = BAD", "again 1 1 1 MIN = BAD", "again 1 1 1 MAX = BAD");
        Rows.refused("some", "lasts -1 0 = BAD", "lasts 17 0 = BAD", "lasts 0 -1 = BAD", "lasts 0 257 = BAD",
            "lasts MIN 0 = BAD", "lasts MAX 0 = BAD", "lasts 0 MIN = BAD", "lasts 0 MAX = BAD");
        Rows.refused("some", "next 0 1 0 0 = BAD", "next 21 1 0 0 = BAD", "next 1 0 0 0 = BAD", "next 1 61 0 0 = BAD",
            "next 1 1 -1 0 = BAD", "next 1 1 2 0 = BAD", "next 20 1 21 0 = BAD", "next 1 1 0 -1 = BAD",
            "next 1 1 0 2 = BAD", "next MIN 1 0 0 = BAD", "next MAX 1 0 0 = BAD", "next 1 MIN 0 0 = BAD",
            "next 1 MAX 0 0 = BAD", "next 1 1 MIN 0 = BAD", "next 1 1 MAX 0 = BAD", "next 1 1 0 MIN = BAD",
            "next 1 1 0 MAX = BAD", "next 1 6 0 0 = NOT", "next 1 60 0 1 = NOT", "next 1 6 2 0 = BAD",
            "next 1 6 0 2 = BAD", "next 0 6 0 0 = BAD");
        Rows.refused("full", "next 1 1 0 0 = FULL", "next 1 60 0 1 = FULL", "next 1 61 0 0 = BAD", "next 1 1 2 0 = BAD",
            "next 1 1 0 2 = BAD");
        Rows.refused("none counts", "next 1 1 0 0 = NOT", "next 1 1 0 2 = BAD");
        Rows.refused("some", "between -1 1 2 0 = BAD", "between 17 1 2 0 = BAD", "between 8 0 2 0 = BAD",
            "between 8 -1 2 0 = BAD", "between 8 2 2 0 = BAD", "between 8 2 1 0 = BAD", "between 8 1 61 0 = BAD",
            "between 8 60 61 0 = BAD", "between 8 60 60 0 = BAD", "between 8 1 2 -1 = BAD", "between 8 1 2 2 = BAD",
            "between MIN 1 2 0 = BAD", "between MAX 1 2 0 = BAD", "between 8 MIN 2 0 = BAD", "between 8 MAX 2 0 = BAD",
            "between 8 1 MIN 0 = BAD", "between 8 1 MAX 0 = BAD", "between 8 1 2 MIN = BAD", "between 8 1 2 MAX = BAD",
            "between 8 1 6 0 = NOT", "between 8 59 60 1 = NOT", "between 17 1 6 0 = BAD", "between 8 6 6 0 = BAD",
            "between 8 1 6 2 = BAD");
        Rows.refused("full", "between 8 1 2 0 = FULL", "between 8 59 60 1 = FULL", "between 8 1 61 0 = BAD",
            "between 8 2 2 0 = BAD", "between 8 1 2 2 = BAD");
        Rows.refused("none counts", "between 8 1 2 0 = NOT", "between 8 1 2 2 = BAD");
    }

    private static void records() {
        Rows.refused("some", "records -1 = BAD", "records 4 = BAD", "records MIN = BAD", "records MAX = BAD");
        Rows.refused("full", "records 3 = FULL", "records 4 = BAD", "records -1 = BAD");
        Rows.refused("some", "change -1 0 = BAD", "change 60 0 = BAD", "change 1 -1 = BAD", "change 1 2 = BAD",
            "change MIN 0 = BAD", "change MAX 0 = BAD", "change 1 MIN = BAD", "change 1 MAX = BAD", "change 0 0 = NOT",
            "change 0 1 = NOT", "change 5 0 = NOT", "change 59 1 = NOT", "change 0 2 = BAD", "change 59 -1 = BAD");
        Rows.refused("none counts", "change 2 0 = NOT", "change 60 0 = BAD");
        Rows.refused("some", "changed -1 = BAD", "changed 2 = BAD", "changed MIN = BAD", "changed MAX = BAD");
        Rows.refused("none counts", "changed 1 = NOT", "changed 2 = BAD");
        Rows.refused("full", "changed 1 = FULL", "changed 2 = BAD");
    }

    private static void sister() {
        Rows.refused("some", "sister -1 5 = BAD", "sister 60 5 = BAD", "sister 0 -2 = BAD", "sister 0 1000 = BAD",
            "sister MIN 5 = BAD", "sister MAX 5 = BAD", "sister 0 MIN = BAD", "sister 0 MAX = BAD", "sister 60 -1 = BAD");
        Rows.refused("some", "common -1 = BAD", "common 2 = BAD", "common MIN = BAD", "common MAX = BAD");
        Rows.refused("some", "filled -1 0 = BAD", "filled 60 0 = BAD", "filled 7 -1 = BAD", "filled 7 3 = BAD",
            "filled MIN 0 = BAD", "filled MAX 0 = BAD", "filled 7 MIN = BAD", "filled 7 MAX = BAD", "filled 0 0 = NOT",
            "filled 3 1 = NOT", "filled 8 2 = NOT", "filled 0 3 = BAD", "filled 8 -1 = BAD");
        Rows.refused("none counts", "filled 7 0 = NOT", "filled 7 1 = NOT", "filled 7 2 = NOT", "filled 7 3 = BAD",
            "filled 0 0 = NOT");
    }

    private static void flows() {
        Rows.refused("some", "type -1 = BAD", "type 256 = BAD", "type MIN = BAD", "type MAX = BAD");
        Rows.refused("full", "type 0 = FULL", "type 255 = FULL", "type 48 = FULL", "type -1 = BAD", "type 256 = BAD");
        Rows.refused("some", "flow -1 0 = BAD", "flow 1000 0 = BAD", "flow 0 -1 = BAD", "flow 0 2 = BAD",
            "flow MIN 0 = BAD", "flow MAX 0 = BAD", "flow 0 MIN = BAD", "flow 0 MAX = BAD");
        Rows.refused("full", "flow 0 0 = NOT", "flow 999 1 = NOT", "flow 1000 0 = BAD", "flow 0 2 = BAD");
        Rows.refused("new", "flow 0 0 = NOT", "flow -1 0 = BAD", "flow 0 -1 = BAD");
    }

    private static void dykes() {
        Rows.refused("some", "dyke -1 0 = BAD", "dyke 1000 0 = BAD", "dyke 0 -1 = BAD", "dyke 0 2 = BAD",
            "dyke MIN 0 = BAD", "dyke MAX 0 = BAD", "dyke 0 MIN = BAD", "dyke 0 MAX = BAD");
        Rows.refused("some", "sure -1 = BAD", "sure 101 = BAD", "sure MIN = BAD", "sure MAX = BAD");
    }

    private static void sheetAndLose() {
        Rows.refused("some", "sheet -1 0 1 = BAD", "sheet 4 0 1 = BAD", "sheet 0 -1 1 = BAD", "sheet 0 3 1 = BAD",
            "sheet 0 0 61 = BAD", "sheet MIN 0 1 = BAD", "sheet MAX 0 1 = BAD", "sheet 0 MIN 1 = BAD",
            "sheet 0 MAX 1 = BAD", "sheet 0 0 MAX = BAD", "sheet 3 2 61 = BAD", "sheet 0 1 -1 = SIZE",
            "sheet 0 2 MIN = SIZE", "sheet 3 0 -1 = SIZE", "sheet 4 0 -1 = BAD", "sheet -1 0 -1 = BAD",
            "sheet 0 3 -1 = BAD", "sheet 0 -1 MIN = BAD");
        Rows.refused("some", "lose -1 = BAD", "lose 4 = BAD", "lose MIN = BAD", "lose MAX = BAD", "lose 3 = NULL");
    }

    /** SHEET 0 has 4 shorts, 3 is LOST; both calls refuse alike. */
    private static void layAndGet() {
        String[] rows = {
            "-1 1 0 = BAD", "4 1 0 = BAD", "0 -1 0 = BAD", "0 3 0 = BAD", "MIN 1 0 = BAD", "MAX 1 0 = BAD",
            "0 MIN 0 = BAD", "0 MAX 0 = BAD", "3 1 0 = NULL", "3 0 -1 = NULL", "3 2 60 = NULL", "3 3 0 = BAD",
            "3 -1 0 = BAD", "0 0 0 = CAST", "0 2 0 = CAST", "0 0 4 = CAST", "0 2 -1 = CAST", "2 1 0 = CAST",
            "0 1 -1 = INDEX", "0 1 4 = INDEX", "0 1 59 = INDEX", "0 1 60 = INDEX", "0 1 MIN = INDEX", "0 1 MAX = INDEX",
            "0 3 4 = BAD", "4 1 4 = BAD", "2 0 3 = INDEX"};
        for (String row : rows) {
            Rows.refused("some", "get " + row, "lay " + row.replace(" =", " 77 ="), "lay " + row.replace(" =", " MIN ="));
        }
        Rows.refused("full", "get 0 2 60 = INDEX", "lay 3 2 60 7 = INDEX", "lay 0 1 60 7 = CAST");
        WallMarks x = new WallMarks();
        Rows.run(x, "sheet 0 0 0 = 0", "get 0 0 0 = INDEX", "lay 0 0 0 5 = INDEX", "lay 0 0 -1 5 = INDEX");
    }

    /** SHEET 0 has 4 shorts, 1 has 9, 2 has 3 bytes, 3 is LOST. */
    private static void copy() {
        Rows.refused("some", "copy -1 0 1 0 1 = BAD", "copy 4 0 1 0 1 = BAD", "copy 0 0 -1 0 1 = BAD",
            "copy 0 0 4 0 1 = BAD", "copy MIN 0 1 0 1 = BAD", "copy MAX 0 1 0 1 = BAD", "copy 0 0 MIN 0 1 = BAD",
            "copy 0 0 MAX 0 1 = BAD", "copy 3 0 4 0 1 = BAD", "copy -1 0 3 0 1 = BAD", "copy 4 -1 2 -1 -1 = BAD");
        Rows.refused("some", "copy 3 0 1 0 1 = NULL", "copy 0 0 3 0 1 = NULL", "copy 3 0 3 0 0 = NULL",
            "copy 3 -1 0 0 0 = NULL", "copy 0 9 3 0 99 = NULL");
        Rows.refused("some", "copy 0 0 2 0 1 = STORE", "copy 2 0 0 0 1 = STORE", "copy 0 0 2 0 0 = STORE",
            "copy 0 -1 2 0 1 = STORE", "copy 0 0 2 9 1 = STORE", "copy 2 0 1 0 -1 = STORE");
        Rows.refused("some", "copy 0 -1 1 0 1 = INDEX", "copy 0 0 1 -1 1 = INDEX", "copy 0 0 1 0 -1 = INDEX",
            "copy 0 0 1 0 5 = INDEX", "copy 0 1 1 0 4 = INDEX", "copy 0 4 1 0 1 = INDEX", "copy 1 0 0 0 5 = INDEX",
            "copy 1 0 0 1 4 = INDEX", "copy 1 0 0 4 1 = INDEX", "copy 0 0 1 6 4 = INDEX", "copy 0 0 1 9 1 = INDEX",
            "copy 0 5 1 0 0 = INDEX", "copy 0 0 1 10 0 = INDEX", "copy 0 -1 1 0 0 = INDEX", "copy 0 0 1 -1 0 = INDEX",
            "copy 0 0 0 1 4 = INDEX", "copy 0 MIN 1 0 1 = INDEX", "copy 0 MAX 1 0 1 = INDEX", "copy 0 0 1 MIN 1 = INDEX",
            "copy 0 0 1 MAX 1 = INDEX", "copy 0 0 1 0 MIN = INDEX", "copy 0 0 1 0 MAX = INDEX", "copy 0 1 1 1 MAX = INDEX",
            "copy 0 MAX 1 MAX MAX = INDEX", "copy 0 MIN 1 MIN MIN = INDEX", "copy 0 MAX 1 0 MIN = INDEX",
            "copy 0 MIN 1 0 MAX = INDEX", "copy 0 MAX 1 0 0 = INDEX", "copy 0 1 1 0 -1 = INDEX", "copy 0 4 1 9 -1 = INDEX",
            "copy 0 60 1 0 0 = INDEX");
        Rows.run(States.made("some"), "copy 0 4 1 9 0 = 1", "copy 0 0 1 0 0 = 1", "copy 0 4 1 0 0 = 1", "copy 0 3 1 8 1 = 1",
            "copy 1 5 0 0 4 = 1", "copy 0 0 1 5 4 = 1");
    }

    private static void writeAndCount() {
        Rows.refused("some", "write -1 0 = BAD", "write 60 0 = BAD", "write 0 -1 = BAD", "write 0 4 = BAD",
            "write MIN 0 = BAD", "write MAX 0 = BAD", "write 0 MIN = BAD", "write 0 MAX = BAD", "write 0 3 = NULL",
            "write 59 3 = NULL", "write 60 3 = BAD", "write -1 3 = BAD");
        Rows.refused("some", "count -1 = BAD", "count 9 = BAD", "count MIN = BAD", "count MAX = BAD");
    }

    /** The latest FINDING is told until the next one, whatever is done, refused or lost in between. */
    private static void findingStays() {
        WallMarks x = new WallMarks();
        Rows.run(x, "lose 0 = NULL", "count 8 = 1", "sheet 0 1 2 = 2", "lay 0 1 0 5 = 1", "get 0 1 0 = 5", "count 8 = 1",
            "get 0 1 2 = INDEX", "count 8 = 2", "get 0 3 0 = BAD", "lay 4 0 0 0 = BAD", "count 8 = 2", "lay 0 0 0 0 = CAST",
            "count 8 = 3", "sheet 1 0 2 = 2", "copy 0 0 1 0 1 = STORE", "count 8 = 4", "sheet 1 0 61 = BAD", "count 8 = 4",
            "sheet 1 0 -1 = SIZE", "count 8 = 5", "tell 0 0 0 0 = 1", "rank 5 = NOT", "copy 0 0 0 0 2 = 1", "lose 0 = 2",
            "count 8 = 5", "read 0 0 0 = NULL", "count 8 = 1", "sheet 0 2 -7 = SIZE", "write 0 0 = NULL", "count 8 = 1");
    }

    /** In this state the latest FINDING is 4; each call is answered, on an object of its own, and makes none. */
    private static void findingStaysBehindAnyCall() {
        String[] rows = {
            "tell 0 0 5 10 = 8", "read 0 0 10 = 3", "watch 0 0 5 = 1", "set 0 5 = 999", "known 0 0 = 0", "over 0 0 = 5",
            "rare 0 0 = 5/6", "soRare 0 = 400", "rank 0 = 3", "again 1 8 1 = 1/2", "lasts 8 128 = 1", "next 1 1 0 = 5/6",
            "between 8 1 2 = 5/32", "records 0 = 2", "records 3 = 800000", "rises = 0", "change 1 = -5/1", "changed 0 = 4",
            "changed 1 = 600000", "sister 0 5 = 150", "common 0 = 3", "filled 7 0 = 342", "type 48 = 14", "wipe = 13",
            "fault = NONE", "flow 0 = 0/1", "dyke 999 = 999/1", "best = 401", "sure 100 = 0", "sheet 3 0 5 = 5", "lose 0 = 4",
            "lay 0 1 0 5 = 1", "get 0 1 0 = 7", "copy 0 0 1 0 4 = 1", "write 0 0 = 4", "count 0 = 7"};
        for (String row : rows) {
            Rows.run(States.made("some"), row, "count 8 = 4");
        }
        WallMarks x = States.made("some");
        x.digest();
        Rows.run(x, "count 8 = 4");
    }
}
