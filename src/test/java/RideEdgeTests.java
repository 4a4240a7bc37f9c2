/** The edges that Terms 2 and 5 and promises 8, 9, 19 to 21 name: rides, fares, routes, drawn days. */
public final class RideEdgeTests {
    private static final Check CHECK = new Check("RideEdgeTests");
    private static final int NONE = GriefTram.NONE;
    private static final int LEAST = Integer.MIN_VALUE;
    private static final int GREATEST = Integer.MAX_VALUE;
    private static final String TWO = "seats 2;rider loss 5;rider loss 6;hill 5;";

    public static void main(String[] args) {
        beginsAtStopNought();
        boardOnlyWhoIsNotAboard();
        boardOnlyToASeatThatIsThereAndFree();
        moveOnlyOneAboard();
        moveOnlyToASeatThatIsThereAndFree();
        offOnlyOneAboard();
        tellUpToNinetyNine();
        jokeDownToNought();
        onlyThoseAboard();
        shareByTwoOrMore();
        shareOnlyBesideOneAnother();
        shareFromSeatNoughtOn();
        goOnlyToAFurtherStop();
        goClimbsByAsMuch();
        goWearsDownToNought();
        goStallsAndNothingElse();
        backOnlyFromAnotherStop();
        stopDeed();
        stopOfNone();
        statesUpToTheStopDeed();
        smokeOfThoseAboard();
        stateOfAnyWhat();
        stateOfASmallAndALargeLine();
        stateOfNone();
        cheapByTicketsBehindOneAnother();
        cheapByFewTickets();
        loopThatOneOrFurther();
        fareOfNone();
        routeByHeight();
        routeOfNone();
        drawnNumbersOfThirtyTwoBits();
        drawnTimes();
        drawnBoardsIfHeMay();
        drawnGetsOffIfAboard();
        drawnGoesOrBack();
        drawnWithoutHills();
        drawnOfNone();
        CHECK.end();
    }

    private static GriefTram ride(String line, String ride) {
        GriefTram x = Check.withLine(line);
        if (Check.tell(x, Check.RIDE, ride) != 0) {
            throw new IllegalStateException("no ride: " + ride);
        }
        return x;
    }

    private static void can(String line, String ride, int want) {
        CHECK.due("stop deed of " + line + " / " + ride, ride(line, ride).stop(0, 0), want);
    }

    /** Behind all the deeds. */
    private static void state(String line, String ride, int what, int want) {
        GriefTram x = ride(line, ride);
        CHECK.due("state " + what + " of " + line + " / " + ride, x.state(0, 0, x.deed(0, NONE, 0), what), want);
    }

    // ---- deeds

    private static void beginsAtStopNought() {
        CHECK.by("A RIDE of a LINE begins at STOP 0, nobody aboard");
        GriefTram x = ride("hill 0;rider false 3;rider loss 4;seats 1;", "");
        CHECK.stretch("state", what -> x.state(0, 0, 0, what), 0, 6, -2, 0, 0, NONE, 0, 0, 0, 0);
        CHECK.stretch("state", what -> x.state(0, 0, 0, what), 10, 19, -2, 3, 4);
        CHECK.stretch("state", what -> x.state(0, 0, 0, what), 20, 29, -2, NONE, NONE);
        CHECK.stretch("state", what -> x.state(0, 0, 0, what), 30, 39, -2, NONE);
    }

    private static void boardOnlyWhoIsNotAboard() {
        CHECK.by("board: a RIDER who is not aboard");
        can(TWO, "board 0 0;", 1);
        can(TWO, "board 1 0;", 1);
        can(TWO, "board 2 0;", 0);
        can(TWO, "board 7 0;", 0);
        can(TWO, "board 0 0;board 0 0;", 1);
        can(TWO, "board 0 0;board 0 1;", 1);
        can(TWO, "board 0 0;off 0;board 0 1;", 3);
        can("", "board 0 0;", 0);
        can("seats 6;" + "rider loss 1;".repeat(8), "board 7 5;board 6 4;board 5 3;board 4 2;board 3 1;board 2 0;", 6);
    }

    private static void boardOnlyToASeatThatIsThereAndFree() {
        CHECK.by("board: .. to a SEAT that is there and free");
        for (int seats = 1; seats <= 6; seats++) {
            for (int seat = 0; seat <= 5; seat++) {
                can("seats " + seats + ";rider loss 1;", "board 0 " + seat + ";", seat < seats ? 1 : 0);
            }
        }
        can(TWO, "board 0 1;board 1 1;", 1);
        can(TWO, "board 0 1;off 0;board 1 1;", 3);
        can(TWO, "board 0 1;move 0 0;board 1 1;", 3);
    }

    private static void moveOnlyOneAboard() {
        CHECK.by("move: one aboard");
        can(TWO, "move 0 0;", 0);
        can(TWO, "board 0 0;move 1 1;", 1);
        can(TWO, "board 0 0;move 2 1;", 1);
        can(TWO, "board 0 0;move 0 1;", 2);
        can(TWO, "board 0 0;off 0;move 0 1;", 2);
    }

    private static void moveOnlyToASeatThatIsThereAndFree() {
        CHECK.by("move: .. to a SEAT that is there and free");
        can(TWO, "board 0 0;move 0 0;", 1);
        can(TWO, "board 0 0;board 1 1;move 0 1;", 2);
        can(TWO, "board 0 0;move 0 2;", 1);
        can(TWO, "board 0 0;move 0 5;", 1);
        can("seats 6;rider loss 1;", "board 0 0;move 0 5;", 2);
        state(TWO, "board 0 0;move 0 1;", 20, 1);
        state(TWO, "board 0 0;move 0 1;", 30, NONE);
        state(TWO, "board 0 0;move 0 1;", 31, 0);
        state(TWO, "board 0 0;move 0 1;", 4, 1);
    }

    private static void offOnlyOneAboard() {
        CHECK.by("off: one aboard");
        can(TWO, "off 0;", 0);
        can(TWO, "board 0 0;off 1;", 1);
        can(TWO, "board 0 0;off 7;", 1);
        can(TWO, "board 0 0;off 0;off 0;", 2);
        state(TWO, "board 0 0;off 0;", 4, 0);
        state(TWO, "board 0 0;off 0;", 20, NONE);
        state(TWO, "board 0 0;off 0;", 30, NONE);
    }

    private static void tellUpToNinetyNine() {
        CHECK.by("tell: each aboard has n OUNCES more (99 at most)");
        String line = "rider love 60;rider shame 53;hill 99;";
        String tells = "board 0 0;board 1 1;" + "tell 9;".repeat(4);
        state(line, tells + "tell 2;", 10, 98);
        state(line, tells + "tell 3;", 10, 99);
        state(line, tells + "tell 4;", 10, 99);
        state(line, tells + "tell 4;", 11, 93);
        state(line, tells + "tell 9;tell 9;tell 9;", 10, 99);
        state(line, tells + "tell 9;tell 9;tell 9;", 11, 99);
        state(line, tells + "tell 9;tell 9;tell 9;", 3, 198 + 49);
        state("rider loss 0;", "board 0 0;tell 1;", 10, 1);
        can(TWO, "tell 9;", 1);
    }

    private static void jokeDownToNought() {
        CHECK.by("joke: n less (0 at least)");
        state("rider loss 9;", "board 0 0;joke 8;", 10, 1);
        state("rider loss 9;", "board 0 0;joke 9;", 10, 0);
        state("rider loss 8;", "board 0 0;joke 9;", 10, 0);
        state("rider loss 0;", "board 0 0;joke 1;", 10, 0);
        state("rider loss 8;", "board 0 0;joke 9;tell 3;", 10, 3);
        state("rider loss 8;rider love 3;", "board 0 0;board 1 1;joke 9;", 3, 0);
        can(TWO, "joke 9;", 1);
    }

    private static void onlyThoseAboard() {
        CHECK.by("tell, joke, go: each aboard");
        String line = "rider loss 20;rider loss 20;hill 1;wear loss 3;";
        state(line, "board 0 0;tell 5;", 11, 20);
        state(line, "board 0 0;joke 5;", 11, 20);
        state(line, "board 0 0;go;", 11, 20);
        state(line, "board 0 0;go;", 10, 17);
        state(line, "board 0 0;off 0;tell 5;", 10, 20);
        state(line, "board 0 0;go;off 0;back;", 10, 17);
    }

    private static void shareByTwoOrMore() {
        CHECK.by("share: .. if one has 2 OUNCES or more more than the other one then, he gives 1");
        for (int one = 0; one <= 4; one++) {
            for (int other = 0; other <= 4; other++) {
                int gives = one >= other + 2 ? 1 : other >= one + 2 ? -1 : 0;
                String line = "rider loss " + one + ";rider false " + other + ";";
                state(line, "board 0 0;board 1 1;share;", 10, one - gives);
                state(line, "board 0 0;board 1 1;share;", 11, other + gives);
                state(line, "board 0 3;board 1 2;share;", 10, one - gives);
            }
        }
    }

    private static void shareOnlyBesideOneAnother() {
        CHECK.by("share: for each two SEATS beside one another .. in which two sit");
        state("rider loss 9;rider loss 0;", "board 0 0;board 1 2;share;", 10, 9);
        state("rider loss 9;rider loss 0;", "board 0 0;board 1 2;move 1 1;share;", 10, 8);
        state("rider loss 9;rider loss 0;", "board 0 0;share;", 10, 9);
        state("rider loss 9;rider loss 0;", "board 0 0;board 1 3;share;", 11, 0);
        state("seats 6;rider loss 9;rider loss 0;", "board 0 0;board 1 5;share;", 10, 9);
        state("seats 6;rider loss 9;rider loss 0;", "board 0 5;board 1 4;share;", 10, 8);
        can("seats 1;rider loss 9;", "share;board 0 0;share;", 3);
        can("", "share;", 1);
    }

    private static void shareFromSeatNoughtOn() {
        CHECK.by("from SEAT 0 on ..: then");
        // 0, 1, 3: 1 and 3 alone; 3, 1, 0: first 2, 2, 0, then 2, 1, 1
        String line = "rider loss 0;rider loss 1;rider loss 3;";
        GriefTram up = ride(line, "board 0 0;board 1 1;board 2 2;share;");
        CHECK.stretch("ounces", what -> up.state(0, 0, 4, what), 10, 12, -2, 0, 2, 2);
        GriefTram down = ride(line, "board 2 0;board 1 1;board 0 2;share;");
        CHECK.stretch("ounces", what -> down.state(0, 0, 4, what), 10, 12, -2, 1, 1, 2);
    }

    private static void goOnlyToAFurtherStop() {
        CHECK.by("go (there is a further STOP)");
        can("", "go;", 0);
        for (int hills = 1; hills <= 8; hills++) {
            can("hill 0;".repeat(hills), "go;".repeat(9), hills);
            state("hill 0;".repeat(hills), "go;".repeat(hills), 0, hills);
            can("hill 0;".repeat(hills), "go;".repeat(hills) + "back;go;", hills + 2);
        }
    }

    private static void goClimbsByAsMuch() {
        CHECK.by("if all aboard PULL as much as the next HILL or more, it is CLIMBED");
        for (int height = 3; height <= 5; height++) {
            int climbs = height <= 4 ? 1 : 0;
            state("hill " + height + ";rider loss 4;", "board 0 0;go;", 0, climbs);
            state("hill " + height + ";rider loss 4;", "board 0 0;go;", 1, 1 - climbs);
            state("hill " + height + ";rider love 2;", "board 0 0;go;", 0, climbs);
            state("hill " + height + ";rider shame 9;rider false 60;", "board 0 0;board 1 1;go;", 0, climbs);
            state("hill " + height + ";rider loss 2;rider love 1;", "board 0 0;board 1 1;go;", 0, climbs);
            state("hill " + height + ";rider loss 60;rider loss 4;", "board 1 1;go;", 0, climbs);
        }
        state("hill 0;", "go;", 0, 1);
        state("hill 1;", "go;", 1, 1);
        state("hill 99;rider love 50;", "board 0 0;go;", 0, 1);
    }

    private static void goWearsDownToNought() {
        CHECK.by("each aboard has WEAR of his KIND less (0 at least)");
        for (String kind : new String[] {"loss", "love", "shame", "false"}) {
            for (int wear : new int[] {0, 1, 8, 9}) {
                for (int ounces : new int[] {0, 1, 8, 9, 10}) {
                    String line = "hill 0;rider " + kind + " " + ounces + ";wear " + kind + " " + wear + ";";
                    state(line, "board 0 0;go;", 10, ounces > wear ? ounces - wear : 0);
                }
            }
        }
        state("hill 0;rider loss 5;rider love 5;wear love 4;", "board 0 0;board 1 1;go;", 10, 4);
        state("hill 0;rider loss 5;rider love 5;wear love 4;", "board 0 0;board 1 1;go;", 11, 1);
    }

    private static void goStallsAndNothingElse() {
        CHECK.by("else it STALLS: nothing else is");
        String line = "hill 0;hill 9;hill 9;rider loss 5;rider false 7;";
        GriefTram x = ride(line, "board 0 0;board 1 1;go;go;go;");
        int[][] due = {{0, 1}, {1, 2}, {2, 1}, {3, 4}, {4, 3}, {5, 6}, {6, 1}, {10, 4}, {11, 6}, {20, 0}, {21, 1}};
        for (int[] row : due) {
            CHECK.due("state " + row[0], x.state(0, 0, 5, row[0]), row[1]);
        }
        CHECK.due("it can be", x.stop(0, 0), 5);
        state("hill 0;hill 9;", "go;go;back;go;go;", 2, 1);
        state("hill 9;hill 9;rider loss 9;", "go;board 0 0;go;go;", 2, 0);
    }

    private static void backOnlyFromAnotherStop() {
        CHECK.by("back: it goes back to STOP 0 (from another one)");
        can("hill 0;", "back;", 0);
        can("", "back;", 0);
        can("hill 9;", "go;back;", 1);
        can("hill 0;hill 0;", "go;back;go;go;back;back;", 5);
        state("hill 0;".repeat(8), "go;".repeat(8) + "back;", 0, 0);
        state("hill 0;rider loss 5;", "board 0 0;go;back;", 10, 4);
        state("hill 0;rider loss 5;", "board 0 0;go;back;", 4, 1);
        state("hill 0;hill 0;", "go;go;back;go;", 6, 3);
    }

    private static void stopDeed() {
        CHECK.by("STOP DEED: the first DEED that can't be, else how many there are");
        can("", "", 0);
        can("", "share;".repeat(40), 40);
        can("", "share;".repeat(39) + "go;", 39);
        can("", "go;" + "share;".repeat(39), 0);
        can("", "share;off 0;share;off 0;", 1);
        can(TWO, "board 0 0;go;go;", 2);
    }

    private static void stopOfNone() {
        CHECK.by("NONE: there is none such (of either)");
        GriefTram x = ride("", "share;");
        CHECK.due("stop", x.stop(0, 0), 1);
        for (int n : new int[] {-2, -1, 1, 2, LEAST, GREATEST}) {
            CHECK.due("line " + n, x.stop(n, 0), NONE);
            CHECK.due("ride " + n, x.stop(0, n), NONE);
        }
        Check.tell(x, Check.RIDE, "share;share;");
        Check.tell(x, Check.LINE, "hill 0;");
        CHECK.due("line 1, ride 1", x.stop(1, 1), 2);
        CHECK.due("ride alone", Check.with(Check.RIDE, "").stop(0, 0), NONE);
        CHECK.due("line alone", Check.withLine("").stop(0, 0), NONE);
    }

    // ---- states

    private static void statesUpToTheStopDeed() {
        CHECK.by("A STATE is behind the first n DEEDS, n up to that");
        GriefTram x = ride("rider loss 1;", "board 0 0;tell 1;tell 1;off 5;tell 1;");
        CHECK.stretch("ounces by n", n -> x.state(0, 0, n, 10), -5, -1, -2);
        CHECK.stretch("ounces by n", n -> x.state(0, 0, n, 10), 0, 50, -2, 1, 1, 2, 3);
        CHECK.far("ounces by n", n -> x.state(0, 0, n, 10), -2);
        GriefTram all = ride("", "share;".repeat(40));
        CHECK.due("behind all forty", all.state(0, 0, 40, 0), 0);
        CHECK.due("behind 41", all.state(0, 0, 41, 0), -2);
        GriefTram none = ride("", "");
        CHECK.due("behind none", none.state(0, 0, 0, 0), 0);
        CHECK.due("behind one of none", none.state(0, 0, 1, 0), -2);
    }

    private static void smokeOfThoseAboard() {
        CHECK.by("SMOKE: OUNCES of all FALSE ones aboard");
        String line = "rider false 10;rider false 20;rider loss 30;rider false 40;hill 0;wear false 3;";
        state(line, "", 5, 0);
        state(line, "board 0 0;board 1 1;board 2 2;", 5, 30);
        state(line, "board 0 0;board 1 1;off 0;", 5, 20);
        state(line, "board 0 0;board 3 1;go;", 5, 44);
        state(line, "board 2 0;", 5, 0);
    }

    private static void stateOfAnyWhat() {
        CHECK.by("-2: .. or for another what");
        GriefTram x = ride("hill 1;seats 3;rider loss 5;rider false 6;", "board 1 2;board 0 0;go;go;");
        CHECK.due("one go alone", x.stop(0, 0), 3);
        CHECK.stretch("state", what -> x.state(0, 0, 3, what), -30, -1, -2);
        CHECK.stretch("state", what -> x.state(0, 0, 3, what), 0, 9, -2, 1, 0, NONE, 4, 3, 5, 1);
        CHECK.stretch("state", what -> x.state(0, 0, 3, what), 10, 19, -2, 4, 5);
        CHECK.stretch("state", what -> x.state(0, 0, 3, what), 20, 29, -2, 0, 2);
        CHECK.stretch("state", what -> x.state(0, 0, 3, what), 30, 39, -2, 0, NONE, 1);
        CHECK.stretch("state", what -> x.state(0, 0, 3, what), 40, 300, -2);
        CHECK.far("state", what -> x.state(0, 0, 3, what), -2);
    }

    private static void stateOfASmallAndALargeLine() {
        CHECK.by("10 + r: OUNCES, 20 + r: SEAT of a RIDER (NONE), 30 + s: who sits in a SEAT (NONE)");
        GriefTram x = ride("seats 1;", "");
        CHECK.stretch("no riders", what -> x.state(0, 0, 0, what), 10, 29, -2);
        CHECK.stretch("one seat", what -> x.state(0, 0, 0, what), 30, 39, -2, NONE);
        GriefTram y = ride("seats 6;" + "rider loss 9;".repeat(8), "board 7 5;");
        CHECK.stretch("eight riders", what -> y.state(0, 0, 1, what), 10, 19, -2, 9, 9, 9, 9, 9, 9, 9, 9);
        CHECK.stretch("eight riders", what -> y.state(0, 0, 1, what), 20, 29, -2, NONE, NONE, NONE, NONE, NONE, NONE, NONE, 5);
        CHECK.stretch("six seats", what -> y.state(0, 0, 1, what), 30, 39, -2, NONE, NONE, NONE, NONE, NONE, 7);
        CHECK.due("the bit of rider 7", y.state(0, 0, 1, 4), 128);
    }

    private static void stateOfNone() {
        CHECK.by("-2: there is no such STATE");
        GriefTram x = ride("", "");
        for (int n : new int[] {-2, -1, 1, 2, LEAST, GREATEST}) {
            CHECK.due("line " + n, x.state(n, 0, 0, 0), -2);
            CHECK.due("ride " + n, x.state(0, n, 0, 0), -2);
            CHECK.due("n " + n, x.state(0, 0, n, 0), -2);
        }
        CHECK.due("ride alone", Check.with(Check.RIDE, "").state(0, 0, 0, 0), -2);
        CHECK.due("line alone", Check.withLine("").state(0, 0, 0, 0), -2);
    }

    // ---- fares and routes

    private static void fare(String line, int from, int to, int... due) {
        GriefTram x = Check.withLine(line);
        CHECK.stretch("fare " + from + " " + to + " of " + line, what -> x.fare(0, from, to, what), 0, 3, NONE, due);
    }

    private static void cheapByTicketsBehindOneAnother() {
        CHECK.by("CHEAP from a STOP up to a further one: the least FARES of tickets one behind the other");
        String eight = "hill 1;".repeat(8);
        fare(eight, 0, 8, 8, 1, 8);
        fare(eight, 7, 8, 1, 1, 8);
        fare(eight + "fare 1 0;", 0, 8, 0, 8, 8);
        fare(eight + "fare 8 0;", 0, 8, 0, 1, 8);
        fare(eight + "fare 8 0;", 0, 7, 7, 1, 8);
        fare(eight + "fare 8 0;", 1, 8, 7, 1, 8);
        fare(eight + "fare 1 99;fare 2 99;fare 3 99;fare 4 99;fare 5 99;fare 6 99;fare 7 99;fare 8 99;", 0, 8, 99, 1, 8);
        fare(eight + "fare 1 12;fare 2 99;fare 3 99;fare 4 99;fare 5 99;fare 6 99;fare 7 99;fare 8 97;", 0, 8, 96, 8, 8);
        fare(eight + "fare 3 1;fare 5 1;", 0, 8, 2, 2, 8);
        fare("hill 1;", 0, 1, 1, 1, 1);
    }

    private static void cheapByFewTickets() {
        CHECK.by("by how few tickets of that");
        String four = "hill 1;hill 1;hill 1;hill 1;";
        fare(four + "fare 1 1;fare 2 2;fare 3 3;fare 4 4;", 0, 4, 4, 1, 4);
        fare(four + "fare 1 1;fare 2 2;fare 3 3;fare 4 5;", 0, 4, 4, 2, 4);
        fare(four + "fare 1 1;fare 2 3;fare 3 9;fare 4 9;", 0, 4, 4, 4, 4);
        fare(four + "fare 1 0;fare 2 0;fare 3 0;fare 4 0;", 0, 4, 0, 1, 4);
        fare(four + "fare 1 0;fare 2 0;fare 3 0;fare 4 1;", 0, 4, 0, 2, 4);
        fare(four + "fare 1 1;fare 2 3;fare 3 9;fare 4 9;", 2, 3, 1, 1, 3);
        fare(four + "fare 1 1;fare 2 3;fare 3 9;fare 4 9;", 1, 3, 2, 2, 3);
        fare(four + "fare 1 1;fare 2 3;fare 3 9;fare 4 9;", 1, 4, 3, 3, 4);
    }

    private static void loopThatOneOrFurther() {
        CHECK.by("LOOP: the STOP, that one or further, up to which one ticket from the first one costs least");
        String four = "hill 1;hill 1;hill 1;hill 1;fare 1 5;fare 2 4;fare 3 4;fare 4 3;";
        fare(four, 0, 1, 5, 1, 4);
        fare(four, 1, 2, 5, 1, 3);
        fare(four, 1, 3, 4, 1, 3);
        fare(four, 2, 3, 5, 1, 4);
        fare(four, 3, 4, 5, 1, 4);
        fare(four, 0, 2, 4, 1, 4);
        CHECK.by("LOOP: .. of several the first");
        fare("hill 1;hill 1;hill 1;fare 1 5;fare 2 5;fare 3 5;", 0, 1, 5, 1, 1);
        fare("hill 1;hill 1;hill 1;fare 1 5;fare 2 4;fare 3 4;", 0, 1, 5, 1, 2);
        fare("hill 1;hill 1;fare 3 0;", 0, 1, 1, 1, 1);
    }

    private static void fareOfNone() {
        CHECK.by("NONE: there is none such (of any), it is no further one, or for another what");
        for (int hills : new int[] {0, 1, 3, 8}) {
            GriefTram x = Check.withLine("hill 1;".repeat(hills));
            for (int from = -2; from <= hills + 2; from++) {
                for (int to = -2; to <= hills + 2; to++) {
                    boolean may = from >= 0 && to > from && to <= hills;
                    CHECK.due(hills + " hills, " + from + " to " + to, x.fare(0, from, to, 0), may ? to - from : NONE);
                }
            }
        }
        GriefTram x = Check.withLine("hill 1;hill 1;");
        CHECK.stretch("what", what -> x.fare(0, 0, 1, what), -30, -1, NONE);
        CHECK.stretch("what", what -> x.fare(0, 0, 1, what), 0, 60, NONE, 1, 1, 1);
        CHECK.far("what", what -> x.fare(0, 0, 1, what), NONE);
        CHECK.far("line", line -> x.fare(line, 0, 1, 0), NONE);
        CHECK.far("from", from -> x.fare(0, from, 1, 0), NONE);
        CHECK.far("to", to -> x.fare(0, 0, to, 0), NONE);
        CHECK.due("from least to greatest", x.fare(0, LEAST, GREATEST, 2), NONE);
        CHECK.due("line -1", x.fare(-1, 0, 1, 0), NONE);
        CHECK.due("line 1", x.fare(1, 0, 1, 0), NONE);
    }

    private static void routeByHeight() {
        CHECK.by("ROUTE k: the k-th HILL by height (the highest first, of like ones the lesser number)");
        GriefTram x = Check.withLine("hill 0;hill 99;hill 7;hill 99;hill 7;hill 0;hill 8;hill 99;");
        CHECK.stretch("route", k -> x.route(0, k), 0, 20, NONE, 1, 3, 7, 6, 2, 4, 0, 5);
        GriefTram like = Check.withLine("hill 4;".repeat(8));
        CHECK.stretch("like ones", k -> like.route(0, k), 0, 20, NONE, 0, 1, 2, 3, 4, 5, 6, 7);
        GriefTram rising = Check.withLine("hill 1;hill 2;hill 3;");
        CHECK.stretch("rising", k -> rising.route(0, k), 0, 20, NONE, 2, 1, 0);
    }

    private static void routeOfNone() {
        CHECK.by("NONE: there is none such (of either)");
        GriefTram x = Check.withLine("hill 4;");
        CHECK.stretch("route", k -> x.route(0, k), -9, -1, NONE);
        CHECK.stretch("route", k -> x.route(0, k), 0, 9, NONE, 0);
        CHECK.far("route", k -> x.route(0, k), NONE);
        CHECK.far("line", line -> x.route(line, 0), NONE);
        CHECK.due("line -1", x.route(-1, 0), NONE);
        CHECK.due("line 1", x.route(1, 0), NONE);
        CHECK.due("no hills", Check.withLine("").route(0, 0), NONE);
    }

    // ---- drawn days: what each seed draws was reckoned apart from the class

    private static void drawn(GriefTram x, int seed, int n, int[] whole, int[] ounces, int[] seats) {
        String call = "seed " + seed + ", " + n + " times, what";
        CHECK.stretch(call, what -> x.drawn(0, seed, n, what), 0, 9, -2, whole);
        CHECK.stretch(call, what -> x.drawn(0, seed, n, what), 10, 19, -2, ounces);
        CHECK.stretch(call, what -> x.drawn(0, seed, n, what), 20, 29, -2, seats);
    }

    private static void drawnNumbersOfThirtyTwoBits() {
        CHECK.by("x becomes x * 1103515245 + 12345 (of 32 bits), it is x shifted right by 16 without sign, remainder by n");
        String line = "hill 3;hill 5;seats 2;rider loss 20;rider love 9;rider false 30;wear love 2;wear false 3;";
        GriefTram x = Check.withLine(line);
        drawn(x, 0, 60, new int[] {0, 5, 0, 0, 2, 0, 12}, new int[] {5, 0, 23}, new int[] {NONE, 0, NONE});
        drawn(x, 1, 60, new int[] {1, 4, 0, 12, 3, 0, 19}, new int[] {2, 5, 0}, new int[] {0, 1, NONE});
        drawn(x, -1, 60, new int[] {2, 7, 0, 16, 3, 0, 10}, new int[] {14, 1, 16}, new int[] {0, 1, NONE});
        drawn(x, GREATEST, 60, new int[] {1, 8, 0, 2, 6, 12, 9}, new int[] {16, 1, 12}, new int[] {NONE, 1, 0});
        drawn(x, LEAST, 60, new int[] {0, 5, 0, 11, 1, 0, 12}, new int[] {11, 0, 10}, new int[] {0, NONE, NONE});
        drawn(x, -12345, 60, new int[] {1, 1, 0, 0, 0, 0, 15}, new int[] {5, 5, 1}, new int[] {NONE, NONE, NONE});
        drawn(x, GREATEST, 1, new int[] {0, 0, NONE, 18, 2, 0, 0}, new int[] {20, 9, 30}, new int[] {NONE, 0, NONE});
        drawn(x, LEAST, 1, new int[] {0, 0, NONE, 20, 1, 0, 0}, new int[] {20, 9, 30}, new int[] {0, NONE, NONE});
        drawn(x, -1, 1, new int[] {0, 0, NONE, 0, 4, 30, 0}, new int[] {20, 9, 30}, new int[] {NONE, NONE, 0});
        CHECK.stretch("who sits in a seat", what -> x.drawn(0, GREATEST, 60, what), 30, 39, -2, 2, 1);
    }

    private static void drawnTimes() {
        CHECK.by("n times, 0 to 60; another n");
        GriefTram x = Check.withLine("rider loss 5;hill 0;");
        CHECK.stretch("drawn by n", n -> x.drawn(0, 1, n, 10) == -2 ? -2 : 0, -20, -1, -2);
        CHECK.stretch("drawn by n", n -> x.drawn(0, 1, n, 10) == -2 ? -2 : 0, 0, 90, -2, new int[61]);
        CHECK.far("drawn by n", n -> x.drawn(0, 1, n, 10), -2);
        CHECK.due("no times", x.drawn(0, 4, 0, 4), 0);
        CHECK.due("once", x.drawn(0, 4, 1, 4), 1);
    }

    private static void drawnBoardsIfHeMay() {
        CHECK.by("0 to 2: a RIDER .. is drawn: he boards to the least free SEAT, if he may");
        String three = "hill 9;rider loss 1;rider loss 2;rider loss 3;";
        GriefTram x = Check.withLine(three);
        // seed 0: 0, rider 2; seed 4: 1, rider 0; seed 8: 2, rider 1
        CHECK.due("of 0", x.drawn(0, 0, 1, 4), 4);
        CHECK.due("of 1", x.drawn(0, 4, 1, 4), 1);
        CHECK.due("of 2", x.drawn(0, 8, 1, 4), 2);
        GriefTram two = Check.withLine("hill 9;seats 1;rider loss 1;rider loss 2;");
        // seed 47: rider 0 twice; seed 581: rider 0, rider 1, then 0 gets off
        CHECK.due("one aboard is drawn again", two.drawn(0, 47, 2, 4), 1);
        CHECK.due("no seat is free", two.drawn(0, 581, 2, 4), 1);
        CHECK.due("the next draw comes behind his", two.drawn(0, 581, 3, 4), 0);
        // seed 7051: riders 0, 1 board, 0 gets off, 2 boards
        CHECK.due("the least free seat", x.drawn(0, 7051, 4, 22), 0);
        CHECK.due("beside the one that is taken", x.drawn(0, 7051, 4, 21), 1);
        CHECK.due("two aboard", x.drawn(0, 7051, 4, 4), 6);
    }

    private static void drawnGetsOffIfAboard() {
        CHECK.by("3: likewise a RIDER: he gets off, if he is aboard; 4: share");
        GriefTram x = Check.withLine("hill 9;rider loss 1;rider loss 5;");
        // seed 12: 3 of rider 1, then he boards; seed 188: 1, 0 board, 1 gets off; seed 8: 0, 1 board, share
        CHECK.due("he is not aboard", x.drawn(0, 12, 1, 4), 0);
        CHECK.due("then he boards", x.drawn(0, 12, 2, 4), 2);
        CHECK.due("two aboard", x.drawn(0, 188, 2, 4), 3);
        CHECK.due("one gets off", x.drawn(0, 188, 3, 4), 1);
        CHECK.due("to share", x.drawn(0, 8, 2, 11), 5);
        CHECK.due("shared", x.drawn(0, 8, 3, 11), 4);
        CHECK.due("with the other one", x.drawn(0, 8, 3, 10), 2);
        CHECK.due("nobody to share", x.drawn(0, 2, 1, 10), 1);
    }

    private static void drawnGoesOrBack() {
        CHECK.by("5 to 7: go, or back from the last STOP");
        GriefTram x = Check.withLine("hill 0;hill 0;rider loss 1;");
        // seed 11: 5, seed 1: 6, seed 5: 7; seed 10: four of these
        CHECK.due("of 5", x.drawn(0, 11, 1, 0), 1);
        CHECK.due("of 6", x.drawn(0, 1, 1, 0), 1);
        CHECK.due("of 7", x.drawn(0, 5, 1, 0), 1);
        CHECK.stretch("stop", n -> x.drawn(0, 10, n, 0), 0, 4, -2, 0, 1, 2, 0, 1);
        CHECK.stretch("climbed", n -> x.drawn(0, 10, n, 6), 0, 4, -2, 0, 1, 2, 2, 3);
        GriefTram high = Check.withLine("hill 0;hill 9;rider loss 1;");
        CHECK.stretch("stop", n -> high.drawn(0, 10, n, 0), 0, 4, -2, 0, 1, 1, 1, 1);
        CHECK.stretch("stalled", n -> high.drawn(0, 10, n, 1), 0, 4, -2, 0, 0, 1, 2, 3);
        CHECK.due("at hill 1 first", high.drawn(0, 10, 4, 2), 1);
    }

    private static void drawnWithoutHills() {
        CHECK.by("(if there is a HILL)");
        GriefTram x = Check.withLine("rider loss 1;rider loss 2;");
        for (int n = 0; n <= 4; n++) {
            CHECK.due("stop", x.drawn(0, 10, n, 0), 0);
            CHECK.due("never stalled", x.drawn(0, 10, n, 1), 0);
            CHECK.due("at no hill", x.drawn(0, 10, n, 2), NONE);
            CHECK.due("none climbed", x.drawn(0, 10, n, 6), 0);
        }
    }

    private static void drawnOfNone() {
        CHECK.by("-2: there are no RIDERS, there is none such, another n, or for another what");
        GriefTram none = Check.withLine("hill 1;");
        CHECK.due("no riders", none.drawn(0, 1, 1, 0), -2);
        CHECK.due("no riders, no times", none.drawn(0, 1, 0, 0), -2);
        GriefTram x = Check.withLine("hill 1;seats 2;rider loss 1;");
        CHECK.stretch("what", what -> x.drawn(0, 4, 1, what), -20, -1, -2);
        CHECK.stretch("what", what -> x.drawn(0, 4, 1, what), 0, 9, -2, 0, 0, NONE, 1, 1, 0, 0);
        CHECK.stretch("what", what -> x.drawn(0, 4, 1, what), 10, 19, -2, 1);
        CHECK.stretch("what", what -> x.drawn(0, 4, 1, what), 20, 29, -2, 0);
        CHECK.stretch("what", what -> x.drawn(0, 4, 1, what), 30, 39, -2, 0, NONE);
        CHECK.stretch("what", what -> x.drawn(0, 4, 1, what), 40, 200, -2);
        CHECK.far("what", what -> x.drawn(0, 4, 1, what), -2);
        CHECK.far("line", line -> x.drawn(line, 4, 1, 0), -2);
        CHECK.due("line -1", x.drawn(-1, 4, 1, 0), -2);
        CHECK.due("line 1", x.drawn(1, 4, 1, 0), -2);
    }
}
