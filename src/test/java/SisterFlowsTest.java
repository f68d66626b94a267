/** Promises 19 to 25: sister, common, filled, type, wipe, fault, flow. */
public final class SisterFlowsTest {
    private SisterFlowsTest() {
    }

    public static void main(String[] args) {
        sister();
        common();
        filled();
        filledWithout();
        filledByTheLeast();
        filledOfThoseThatCount();
        type();
        wipe();
        faults();
        noFaults();
        flow();
        flowRefuses();
        Due.end();
    }

    private static void sister() {
        WallMarks x = new WallMarks();
        Due.is("sister", x.sister(0, 0), -1);
        Due.is("sister", x.sister(0, 999), 0);
        Due.is("sister", x.sister(59, 5), -1);
        Due.is("sister years", x.count(6), 2);
        int[][] wrong = {{-1, 5}, {60, 5}, {0, -2}, {0, 1000}};
        for (int[] w : wrong) {
            Due.is("sister wrong", x.sister(w[0], w[1]), -5);
        }
        Due.is("taken back", x.sister(0, -1), 999);
        Due.is("taken back", x.sister(0, -1), -1);
        Due.is("sister years", x.count(6), 1);
    }

    private static void common() {
        WallMarks x = Due.withLevels(10, 20, 20, 5);
        x.tell(4, 1, 9, 0);
        int[] levels = {100, 200, 300, 150, 50, 60};
        for (int year = 0; year < levels.length; year++) {
            x.sister(year, levels[year]);
        }
        Due.is("common", x.common(0), 4);
        // 0 1 and 0 2 rise both; 0 3, falls and rises; 1 2 is like; 1 3 and 2 3 fall both.
        Due.is("ties", x.common(1), 3);
        x.sister(1, 150);
        Due.is("like at the sister's", x.common(1), 2);
        x.sister(2, -1);
        Due.is("common of three", x.common(0), 3);
        Due.is("ties of three", x.common(1), 0);
        x.set(2, 1);
        Due.is("common of those that count", x.common(0), 2);
        x.set(2, 59);
        x.sister(1, 99);
        // 0 1 rises and falls; 0 3 and 1 3 fall and rise.
        Due.is("against each other", x.common(1), -3);
        Due.is("common -1", x.common(-1), -10002);
        Due.is("common 2", x.common(2), -10002);
    }

    private static void filled() {
        WallMarks x = Due.withLevels(10, 30, 7);
        x.sister(0, 4);
        x.sister(1, 9);
        x.sister(2, 0);
        x.sister(3, 5);
        x.tell(4, 1, 100, 0);
        x.sister(4, 999);
        // 47 by 13; 10 by 4; 30 by 9.
        Due.is("filled", x.filled(3, 0), 18);
        Due.is("least", x.filled(3, 1), 12);
        Due.is("greatest", x.filled(3, 2), 16);
        Due.is("filled of one below", x.filled(4, 0), 3611);
        Due.is("least of one below", x.filled(4, 1), 2497);
        Due.is("greatest of one below", x.filled(4, 2), 3330);
        int[][] wrong = {{-1, 0}, {60, 0}, {3, -1}, {3, 3}};
        for (int[] w : wrong) {
            Due.is("filled wrong", x.filled(w[0], w[1]), -2);
        }
    }

    private static void filledWithout() {
        WallMarks x = Due.withLevels(10, 30);
        x.sister(0, 0);
        x.sister(1, 0);
        x.sister(3, 5);
        for (int what = 0; what <= 2; what++) {
            Due.is("exact", x.filled(0, what), -3);
            Due.is("no sister", x.filled(2, what), -3);
            Due.is("sister's are 0", x.filled(3, what), -3);
        }
        x.sister(1, 7);
        for (int what = 0; what <= 2; what++) {
            Due.is("exact, others common", x.filled(1, what), -3);
            Due.is("no sister, others common", x.filled(2, what), -3);
        }
        x.sister(1, 10);
        Due.is("one is 0", x.filled(3, 0), 20);
        Due.is("one is 0", x.filled(3, 1), 15);
        Due.is("one is 0", x.filled(3, 2), 15);
        x.sister(3, 0);
        Due.is("a sister's 0 fills 0", x.filled(3, 2), 0);
        x.sister(3, 5);
        x.tell(0, 0, 0, 0);
        x.sister(0, 10);
        Due.is("own 0 is a ratio", x.filled(3, 1), 0);
        x.sister(0, -1);
        x.sister(1, -1);
        Due.is("no common year", x.filled(3, 0), -3);
        Due.is("no common year", x.filled(3, 1), -3);
    }

    /** A SISTER's LEVEL of 1 is the least that is not left out. */
    private static void filledByTheLeast() {
        WallMarks x = Due.withLevels(3, 5, 4, 999);
        Rows.run(x, "sister 0 0 = NONE", "sister 1 1 = NONE", "sister 2 2 = NONE", "sister 9 7 = NONE", "filled 9 0 = 28",
            "filled 9 1 = 14", "filled 9 2 = 35", "sister 2 -1 = 2", "filled 9 0 = 56", "filled 9 1 = 35",
            "sister 1 0 = 1", "filled 9 0 = NOT", "filled 9 1 = NOT", "filled 9 2 = NOT", "common 0 = 2",
            "sister 3 1 = NONE", "sister 9 999 = 7", "filled 9 1 = 998001", "filled 9 2 = 998001");
    }

    private static void filledOfThoseThatCount() {
        WallMarks x = Due.withLevels(10, 30);
        x.sister(0, 10);
        x.sister(1, 10);
        x.sister(50, 7);
        x.set(2, 0);
        Due.is("filled though it does not count", x.filled(50, 0), 7);
        x.set(2, 1);
        Due.is("both count", x.filled(50, 0), 14);
        x.set(1, 2);
        Due.is("none counts", x.filled(50, 0), -3);
        Due.is("exact though it does not count", x.filled(0, 0), -3);
    }

    private static void type() {
        WallMarks x = new WallMarks();
        Due.is("type -1", x.type(-1), -2);
        Due.is("type 256", x.type(256), -2);
        Due.is("type 0", x.type(0), 1);
        Due.is("type 255", x.type(255), 2);
        for (int i = 3; i <= 60; i++) {
            Due.is("type", x.type(48), i);
        }
        Due.is("full", x.type(48), -4);
        Due.is("bad goes ahead of full", x.type(256), -2);
        Due.is("bytes", x.count(7), 60);
    }

    private static void wipe() {
        WallMarks x = new WallMarks();
        Due.is("wipe nothing", x.wipe(), 0);
        Due.typeAnew(x, "1:1;2:2");
        Due.is("wipe", x.wipe(), 7);
        Due.is("wipe again", x.wipe(), 0);
        Due.is("bytes", x.count(7), 0);
        Due.is("fault of an empty one", x.fault(), 0);
        Due.is("type anew", x.type(49), 1);
        Due.is("what was wiped does not come back", x.fault(), 1);
        Due.typeAnew(x, "1:1;2:2");
        Due.typeAnew(x, "1:1");
        Due.is("what was wiped does not come back", x.fault(), 3);
    }

    private static void faultOf(String text, int place) {
        WallMarks x = new WallMarks();
        Due.typeAnew(x, text);
        Due.is("fault of " + text, x.fault(), place);
        Due.is("flow by " + text, x.flow(0, 0), Due.NOT);
    }

    private static void faults() {
        faultOf("", 0);
        faultOf("x", 0);
        faultOf(":", 0);
        faultOf(";", 0);
        faultOf("5", 1);
        faultOf("555", 3);
        faultOf("5555", 3);
        faultOf("5;", 1);
        faultOf("5:", 2);
        faultOf("5::", 2);
        faultOf("5:;", 2);
        faultOf("5:-1", 2);
        faultOf("5:9", 3);
        faultOf("5:9999", 5);
        faultOf("5:9 ", 3);
        faultOf("5:9:", 3);
        faultOf("5:9;", 4);
        faultOf("5:9;;", 4);
        faultOf("5:9;6", 5);
        faultOf("5:9;6:", 6);
        faultOf("5:9;5:9", 4);
        faultOf("5:9;4:9", 4);
        faultOf("5:9;5", 4);
        faultOf("5:9;005:9", 4);
        faultOf("5:9;6:8", 6);
        faultOf("5:9;6:08;7:9", 6);
        faultOf("5:9;6:9;", 8);
        faultOf("5:9;6:9x", 7);
        faultOf("5:9;6:9;6:9", 8);
        faultOf("5:9;6:9;7:8;8:9", 10);
        faultOf("1:1;2:2;3:3;4:4;5:5;6:6;", 23);
        faultOf("1:1;2:2;3:3;4:4;5:5;6:6666", 25);
        faultOf("1:1;2:2;3:3;4:4;5:5;5:6", 20);
        faultOf(" 1:1;2:2", 0);
        faultOf("1:1,2:2", 3);
        faultOf("1:1;2:2/", 7);
        faultOf("1:1;2:2:", 7);
        faultOf("1:1;2:" + (char) 184, 6);
    }

    private static void noFaults() {
        WallMarks x = new WallMarks();
        String[] texts = {
            "0:0;1:0", "5:9;6:9", "1:1;2:2;3:3;4:4;5:5;6:6", "000:000;999:999", "1:1;02:002", "9:9;10:10;100:10",
            "994:999;995:999;996:999;997:999;998:999;999:999"};
        for (String text : texts) {
            Due.typeAnew(x, text);
            Due.is("fault of " + text, x.fault(), -1);
        }
    }

    private static void flow() {
        WallMarks x = new WallMarks();
        Due.typeAnew(x, "100:10;200:40;203:50;300:50");
        int[][] due = {
            {100, 10, 1}, {200, 40, 1}, {203, 50, 1}, {300, 50, 1}, {150, 25, 1}, {101, 103, 10}, {201, 130, 3},
            {202, 140, 3}, {250, 50, 1}, {999, 50, 1}, {67, 1, 10}, {66, 0, 1}, {0, 0, 1}, {99, 97, 10}, {203, 50, 1}};
        for (int[] d : due) {
            Due.fraction("flow " + d[0], x.flow(d[0], 0), x.flow(d[0], 1), d[1], d[2]);
        }
        Due.typeAnew(x, "0:0;2:999");
        Due.fraction("flow far behind", x.flow(999, 0), x.flow(999, 1), 998001, 2);
        Due.typeAnew(x, "10:5;20:6;30:9");
        Due.fraction("by the first two", x.flow(0, 0), x.flow(0, 1), 4, 1);
        Due.fraction("by the last two", x.flow(41, 0), x.flow(41, 1), 123, 10);
    }

    private static void flowRefuses() {
        WallMarks x = new WallMarks();
        int[][] wrong = {{-1, 0}, {1000, 0}, {0, -1}, {0, 2}};
        for (int[] w : wrong) {
            Due.is("flow wrong, and a fault", x.flow(w[0], w[1]), Due.BAD);
        }
        Due.is("a fault", x.flow(0, 1), Due.NOT);
        Due.typeAnew(x, "1:1;2:2");
        Due.is("flow 999", x.flow(999, 0), 999);
        x.type(';');
        Due.is("a fault again", x.flow(999, 0), Due.NOT);
    }
}
