/** Promises 6 to 9, 19 to 21: lines, rides and their states, fares, routes, drawn days. */
public final class RideTests {
    private static final Check CHECK = new Check("RideTests");
    private static final int NONE = GriefTram.NONE;
    private static final String LINE = "hill 10;hill 6;hill 12;seats 3;rider loss 9;rider love 4;"
        + "rider shame 11;rider false 20;rider loss 3;wear shame 2;fare 1 5;fare 2 8;fare 3 7;";

    public static void main(String[] args) {
        lines();
        deeds();
        aRide();
        deedsThatCantBe();
        shares();
        tellsAndJokes();
        fares();
        routes();
        drawnByHand();
        CHECK.end();
    }

    private static void lines() {
        GriefTram x = Check.withLine(LINE);
        int[][] due = {{0, 3}, {1, 3}, {2, 5}, {3, NONE}, {9, NONE}, {-1, NONE}, {10, 10}, {11, 6}, {12, 12}, {13, NONE},
            {19, NONE}, {20, 0}, {21, 1}, {22, 2}, {23, 3}, {24, 0}, {25, NONE}, {30, 9}, {31, 4}, {32, 11}, {33, 20},
            {34, 3}, {35, NONE}, {40, 1}, {41, 1}, {42, 2}, {43, 1}, {44, NONE}, {50, NONE}, {51, 5}, {52, 8}, {53, 7},
            {54, 4}, {58, 8}, {59, NONE}, {60, 9}, {61, 8}, {62, 5}, {63, 0}, {64, 3}, {65, NONE}, {70, NONE},
            {Integer.MAX_VALUE, NONE}, {Integer.MIN_VALUE, NONE}, {-10, NONE}};
        for (int[] row : due) {
            CHECK.due("line 0 " + row[0], x.line(0, row[0]), row[1]);
        }
        CHECK.due("line 1", x.line(1, 0), NONE);
        CHECK.due("line -1", x.line(-1, 0), NONE);
        GriefTram empty = Check.withLine("");
        CHECK.due("no hills", empty.line(0, 0), 0);
        CHECK.due("four seats", empty.line(0, 1), 4);
        CHECK.due("no riders", empty.line(0, 2), 0);
        CHECK.due("fare at first", empty.line(0, 58), 8);
        CHECK.due("a second line", Check.tell(empty, 0, "seats 1;"), 1);
        CHECK.due("its seats", empty.line(1, 1), 1);
        CHECK.due("the first one's", empty.line(0, 1), 4);
    }

    private static void deeds() {
        GriefTram x = Check.with(Check.RIDE, "board 3 4;move 5 2;off 1;tell 9;joke 8;go;share;back;");
        int[][] due = {{0, 3, 4}, {1, 5, 2}, {2, 1, NONE}, {3, 9, NONE}, {4, 8, NONE}, {5, NONE, NONE}, {6, NONE, NONE},
            {7, NONE, NONE}};
        CHECK.due("deeds", x.deed(0, NONE, 0), 8);
        for (int k = 0; k < 8; k++) {
            for (int what = 0; what < 3; what++) {
                CHECK.due("deed " + k + " " + what, x.deed(0, k, what), due[k][what]);
            }
        }
        CHECK.due("deed 8", x.deed(0, 8, 0), -2);
        CHECK.due("deed -2", x.deed(0, -2, 0), -2);
        CHECK.due("deed what 3", x.deed(0, 0, 3), -2);
        CHECK.due("deed what -1", x.deed(0, 0, -1), -2);
        CHECK.due("deed NONE 1", x.deed(0, NONE, 1), -2);
        CHECK.due("ride 1", x.deed(1, NONE, 0), -2);
        CHECK.due("ride -1", x.deed(-1, NONE, 0), -2);
    }

    private static GriefTram ride(String line, String ride) {
        GriefTram x = Check.withLine(line);
        if (Check.tell(x, Check.RIDE, ride) != 0) {
            throw new IllegalStateException("no ride: " + ride);
        }
        return x;
    }

    private static void state(GriefTram x, int n, int what, int want) {
        CHECK.due("state " + n + " " + what, x.state(0, 0, n, what), want);
    }

    private static void aRide() {
        GriefTram x = ride(LINE, "board 0 0;board 3 1;go;tell 2;go;board 1 2;share;go;joke 5;go;off 3;move 0 1;back;"
            + "move 0 1;back;");
        CHECK.due("stop deed", x.stop(0, 0), 13);
        CHECK.due("stop of no line", x.stop(1, 0), NONE);
        CHECK.due("stop of no ride", x.stop(0, 1), NONE);
        CHECK.due("stop of line -1", x.stop(-1, 0), NONE);
        int[][] due = {
            {0, 0, 0}, {0, 1, 0}, {0, 2, NONE}, {0, 3, 0}, {0, 4, 0}, {0, 5, 0}, {0, 6, 0}, {0, 10, 9}, {0, 20, NONE},
            {0, 30, NONE}, {2, 3, 9}, {2, 4, 9}, {2, 5, 20}, {2, 20, 0}, {2, 23, 1}, {2, 31, 3}, {2, 32, NONE},
            // 9 is less than 10: it stalls, and nothing wears
            {3, 0, 0}, {3, 1, 1}, {3, 2, 0}, {3, 10, 9}, {3, 6, 0},
            {4, 10, 11}, {4, 13, 22}, {4, 11, 4}, {4, 3, 11}, {4, 5, 22},
            {5, 0, 1}, {5, 1, 1}, {5, 10, 10}, {5, 13, 21}, {5, 6, 1}, {5, 11, 4},
            // seats 0, 1: false gives loss one; seats 1, 2: false gives love one
            {7, 10, 11}, {7, 13, 19}, {7, 11, 5}, {7, 4, 11},
            {8, 0, 2}, {8, 10, 10}, {8, 13, 18}, {8, 11, 4}, {8, 6, 2},
            {9, 10, 5}, {9, 13, 13}, {9, 11, 0},
            {10, 0, 2}, {10, 1, 2}, {10, 2, 0}, {10, 3, 5},
            {11, 4, 3}, {11, 31, NONE}, {11, 23, NONE}, {11, 13, 13}, {11, 5, 0},
            {12, 20, 1}, {12, 30, NONE}, {12, 31, 0},
            {13, 0, 0}, {13, 6, 2}, {13, 10, 5}, {13, 1, 2},
            {14, 0, -2}, {15, 0, -2}, {-1, 0, -2}, {16, 0, -2}, {Integer.MAX_VALUE, 0, -2},
            {0, 7, -2}, {0, 9, -2}, {0, -1, -2}, {0, 15, -2}, {0, 25, -2}, {0, 33, -2}, {0, 14, 3}, {0, 24, NONE},
            {0, 40, -2}, {0, Integer.MAX_VALUE, -2}, {0, Integer.MIN_VALUE, -2}};
        for (int[] row : due) {
            state(x, row[0], row[1], row[2]);
        }
        CHECK.due("state of no line", x.state(1, 0, 0, 0), -2);
        CHECK.due("state of no ride", x.state(0, 1, 0, 0), -2);
    }

    private static void stopDeed(String line, String ride, int want) {
        CHECK.due("stop of " + line + " / " + ride, ride(line, ride).stop(0, 0), want);
    }

    private static void deedsThatCantBe() {
        String two = "seats 2;rider loss 5;rider loss 6;hill 5;";
        stopDeed(two, "", 0);
        stopDeed(two, "board 2 0;", 0);
        stopDeed(two, "board 1 2;", 0);
        stopDeed(two, "board 1 1;board 1 0;", 1);
        stopDeed(two, "board 1 1;board 0 1;", 1);
        stopDeed(two, "board 1 1;board 0 0;go;", 3);
        stopDeed(two, "move 0 0;", 0);
        stopDeed(two, "board 0 0;move 0 0;", 1);
        stopDeed(two, "board 0 0;board 1 1;move 0 1;", 2);
        stopDeed(two, "board 0 0;move 0 2;", 1);
        stopDeed(two, "board 0 0;move 0 1;board 1 0;", 3);
        stopDeed(two, "off 0;", 0);
        stopDeed(two, "off 3;", 0);
        stopDeed(two, "board 0 0;off 0;off 0;", 2);
        stopDeed(two, "board 0 0;off 0;board 0 0;", 3);
        stopDeed(two, "back;", 0);
        stopDeed(two, "go;back;", 1);
        stopDeed(two, "board 0 0;go;back;back;", 3);
        stopDeed(two, "board 0 0;go;go;", 2);
        stopDeed("", "go;", 0);
        stopDeed("", "tell 1;joke 1;share;", 3);
        stopDeed("hill 0;hill 1;", "go;go;go;go;", 4);
        GriefTram off = ride(two, "board 0 0;tell 3;go;off 0;tell 9;board 0 1;");
        state(off, 6, 10, 7);
        state(off, 6, 11, 6);
    }

    private static void shares() {
        String line = "seats 4;rider loss 10;rider loss 8;rider loss 9;rider false 0;";
        GriefTram x = ride(line, "board 0 0;board 1 1;share;share;board 3 3;share;board 2 2;share;share;");
        state(x, 3, 10, 9);
        state(x, 3, 11, 9);
        state(x, 4, 10, 9);
        state(x, 6, 13, 0);
        // seats 2, 3: nine and none
        state(x, 8, 12, 8);
        state(x, 8, 13, 1);
        state(x, 9, 12, 7);
        state(x, 9, 13, 2);
        state(x, 9, 11, 9);
        GriefTram y = ride("seats 3;rider loss 0;rider loss 1;rider loss 9;", "board 2 0;board 1 1;board 0 2;share;");
        // 9, 1, 0: first 8, 2, 0, then 8, 1, 1
        state(y, 4, 12, 8);
        state(y, 4, 11, 1);
        state(y, 4, 10, 1);
    }

    private static void tellsAndJokes() {
        StringBuilder tells = new StringBuilder("board 0 0;");
        for (int i = 0; i < 5; i++) {
            tells.append("tell 9;");
        }
        GriefTram x = ride("rider love 60;rider loss 7;hill 99;wear love 9;", tells + "go;joke 9;board 1 1;joke 9;");
        state(x, 5, 10, 96);
        state(x, 6, 10, 99);
        state(x, 6, 11, 7);
        state(x, 6, 3, 198);
        state(x, 7, 10, 90);
        state(x, 8, 10, 81);
        state(x, 10, 11, 0);
        GriefTram worn = ride("rider shame 3;hill 1;hill 0;wear shame 2;", "board 0 0;go;go;");
        state(worn, 1, 3, 1);
        state(worn, 2, 10, 1);
        state(worn, 2, 3, 0);
        state(worn, 3, 10, 0);
    }

    private static void fares() {
        GriefTram x = Check.withLine("hill 1;hill 1;hill 1;hill 1;fare 1 5;fare 2 8;fare 3 7;fare 4 13;");
        int[][] due = {{0, 1, 0, 5}, {0, 1, 1, 1}, {0, 1, 2, 1}, {0, 2, 0, 8}, {0, 2, 1, 1}, {0, 2, 2, 3}, {0, 3, 0, 7},
            {0, 4, 0, 12}, {0, 4, 1, 2}, {0, 4, 2, 4}, {1, 3, 2, 4}, {2, 3, 2, 3}, {3, 4, 0, 5}, {3, 4, 2, 4},
            {2, 2, 0, NONE}, {3, 2, 0, NONE}, {-1, 2, 0, NONE}, {0, 5, 0, NONE}, {4, 5, 0, NONE}, {0, 1, 3, NONE},
            {0, 1, -1, NONE}, {0, Integer.MAX_VALUE, 0, NONE}, {Integer.MIN_VALUE, 1, 0, NONE}};
        for (int[] row : due) {
            CHECK.due("fare " + row[0] + " " + row[1] + " " + row[2], x.fare(0, row[0], row[1], row[2]), row[3]);
        }
        CHECK.due("fare of no line", x.fare(1, 0, 1, 0), NONE);
        GriefTram even = Check.withLine("hill 1;".repeat(8) + "fare 1 0;fare 3 3;fare 4 3;fare 8 3;");
        CHECK.due("free tickets", even.fare(0, 0, 8, 0), 0);
        CHECK.due("eight free tickets", even.fare(0, 0, 8, 1), 8);
        CHECK.due("first of several", even.fare(0, 0, 3, 2), 3);
        GriefTram plain = Check.withLine("hill 1;".repeat(8));
        CHECK.due("as many as hills", plain.fare(0, 0, 8, 0), 8);
        CHECK.due("by one ticket", plain.fare(0, 0, 8, 1), 1);
    }

    private static void routes() {
        GriefTram x = Check.withLine("hill 5;hill 9;hill 5;hill 0;hill 9;");
        int[] due = {1, 4, 0, 2, 3, NONE};
        for (int k = 0; k < 6; k++) {
            CHECK.due("route " + k, x.route(0, k), due[k]);
        }
        CHECK.due("route -1", x.route(0, -1), NONE);
        CHECK.due("route of no line", x.route(1, 0), NONE);
        CHECK.due("route greatest", x.route(0, Integer.MAX_VALUE), NONE);
        CHECK.due("no hills", Check.withLine("").route(0, 0), NONE);
    }

    private static void drawnByHand() {
        GriefTram x = Check.withLine("hill 3;seats 2;rider loss 5;rider loss 4;rider false 7;");
        CHECK.due("no draws", x.drawn(0, 1, 0, 4), 0);
        CHECK.due("n -1", x.drawn(0, 1, -1, 4), -2);
        CHECK.due("n 60", x.drawn(0, 1, 60, 40), -2);
        CHECK.due("n 61", x.drawn(0, 1, 61, 4), -2);
        CHECK.due("what 7", x.drawn(0, 1, 1, 7), -2);
        CHECK.due("no line", x.drawn(1, 1, 1, 4), -2);
        CHECK.due("no riders", Check.withLine("hill 3;").drawn(0, 1, 1, 4), -2);
        // seed 1: 1103527590 >>> 16 is 16838, by 8: 6: go, which stalls
        CHECK.due("one draw stalls", x.drawn(0, 1, 1, 1), 1);
        CHECK.due("at hill 0", x.drawn(0, 1, 1, 2), 0);
        // seed 0: 12345 >>> 16 is 0: a rider is drawn of -740551042: 54236, by 3: 2
        CHECK.due("one draw boards", x.drawn(0, 0, 1, 4), 4);
        CHECK.due("in seat 0", x.drawn(0, 0, 1, 22), 0);
        CHECK.due("smoke", x.drawn(0, 0, 1, 5), 7);
    }
}
