import java.util.function.IntUnaryOperator;

/** The edges that Terms 3, 6, 7 and promises 10 to 14, 22 to 31 name: what sets of riders do. */
public final class SetEdgeTests {
    private static final Check CHECK = new Check("SetEdgeTests");
    private static final int NONE = GriefTram.NONE;
    private static final int LEAST = Integer.MIN_VALUE;
    private static final int GREATEST = Integer.MAX_VALUE;
    /** Three riders, two seats: what is there and what has seats. */
    private static final String THREE = "seats 2;hill 0;rider loss 9;rider loss 9;rider loss 9;";

    public static void main(String[] args) {
        comesWhereItStallsOrToTheLast();
        comesWithoutSeats();
        comesOfNone();
        getsUpWithSeats();
        fewOfSeveralTheLeast();
        lightOfAllKindsAlike();
        theEmptySetGetsUp();
        roundsUntilItStalls();
        roundsAHundredOrMore();
        tramsEachWithARider();
        neededAndAllIfNone();
        upOfNone();
        asRounds();
        calmLeastGreatest();
        calmFirstOrder();
        calmOfNone();
        couplesUpwards();
        couplesWays();
        couplesOfNone();
        CHECK.end();
    }

    /** Asks of each set: 'may' where all of it are there and have seats, NONE else. */
    private static void ofSets(String call, IntUnaryOperator ask, int riders, int seats, boolean emptyMay) {
        for (int set = -3; set <= 260; set++) {
            boolean may = set >= 0 && set < 1 << riders && Integer.bitCount(set) <= seats && (set != 0 || emptyMay);
            CHECK.due(call + " of " + set, ask.applyAsInt(set) == NONE, !may);
        }
        CHECK.far(call, ask, NONE);
        CHECK.due(call + " of a high bit", ask.applyAsInt(1 << 31 | 1), NONE);
        CHECK.due(call + " of bit 8", ask.applyAsInt(257), NONE);
    }

    // ---- COMES

    private static void comesWhereItStallsOrToTheLast() {
        CHECK.by("COMES from a STOP: the STOP at which it STALLS, or the last one");
        for (int height = 3; height <= 5; height++) {
            int due = height <= 4 ? 1 : 0;
            CHECK.due("4 against " + height, Check.withLine("hill " + height + ";rider loss 4;").comes(0, 1, 0), due);
            CHECK.due("shame 9", Check.withLine("hill " + height + ";rider shame 9;").comes(0, 1, 0), due);
            CHECK.due("love 2", Check.withLine("hill " + height + ";rider love 2;").comes(0, 1, 0), due);
        }
        GriefTram x = Check.withLine("hill 9;hill 5;hill 4;hill 4;rider loss 5;");
        CHECK.stretch("5 from", from -> x.comes(0, 1, from), 0, 4, NONE, 0, 3, 4, 4, 4);
        CHECK.stretch("nobody from", from -> x.comes(0, 0, from), 0, 4, NONE, 0, 1, 2, 3, 4);
        GriefTram worn = Check.withLine("hill 5;hill 20;rider loss 3;rider love 20;wear loss 9;wear love 9;");
        // 3 and 40, then 0 and 22
        CHECK.due("worn to nought at least", worn.comes(0, 3, 0), 2);
        CHECK.due("no hills", Check.withLine("rider loss 1;").comes(0, 1, 0), 0);
        GriefTram eight = Check.withLine("hill 1;".repeat(8) + "rider loss 8;rider loss 7;");
        CHECK.due("8 comes up eight", eight.comes(0, 1, 0), 8);
        CHECK.due("7 comes up seven", eight.comes(0, 2, 0), 7);
        CHECK.due("wear 0", Check.withLine("hill 3;hill 3;rider loss 3;wear loss 0;").comes(0, 1, 0), 2);
    }

    private static void comesWithoutSeats() {
        CHECK.by("COMES asks for no SEATS; GETS UP does");
        GriefTram x = Check.withLine("seats 1;hill 80;" + "rider loss 10;".repeat(8));
        CHECK.due("all eight in one seat", x.comes(0, 255, 0), 1);
        CHECK.due("seven", x.comes(0, 127, 0), 0);
        CHECK.due("but they don't get up", x.up(0, 0), NONE);
    }

    private static void comesOfNone() {
        CHECK.by("NONE: one of the set is not there, or there is none such (of any)");
        for (int riders : new int[] {0, 1, 3, 8}) {
            GriefTram x = Check.withLine("hill 0;seats 1;" + "rider loss 1;".repeat(riders));
            ofSets(riders + " riders, comes", set -> x.comes(0, set, 0), riders, 8, true);
        }
        GriefTram x = Check.withLine("hill 0;hill 0;");
        CHECK.stretch("from", from -> x.comes(0, 0, from), -9, -1, NONE);
        CHECK.stretch("from", from -> x.comes(0, 0, from), 0, 20, NONE, 2, 2, 2);
        CHECK.far("from", from -> x.comes(0, 0, from), NONE);
        noLine("comes", line -> x.comes(line, 0, 0), NONE);
    }

    /** One line is there. */
    private static void noLine(String call, IntUnaryOperator ask, int none) {
        for (int line : new int[] {-2, -1, 1, 2, 3}) {
            CHECK.due(call + " of line " + line, ask.applyAsInt(line), none);
        }
        CHECK.far(call + " of line", ask, none);
    }

    // ---- GETS UP and over all sets

    private static void up(String line, int... due) {
        GriefTram x = Check.withLine(line);
        CHECK.stretch(line + " up", what -> x.up(0, what), 0, due.length - 1, NONE, due);
    }

    private static void getsUpWithSeats() {
        CHECK.by("GETS UP: it comes from STOP 0 to the last one, and all have SEATS");
        up("seats 2;hill 3;rider loss 1;rider loss 1;rider loss 1;", NONE, NONE, NONE, 0, 7);
        up("seats 3;hill 3;rider loss 1;rider loss 1;rider loss 1;", 7, 7, 3, 1, 7);
        up("seats 3;hill 3;hill 1;rider loss 1;rider loss 1;rider loss 1;", NONE, NONE, NONE, 0, 7);
        up("seats 3;hill 3;hill 0;rider loss 1;rider loss 1;rider loss 1;", 7, 7, 3, 1, 7);
        up("seats 6;hill 6;" + "rider loss 1;".repeat(6), 63, 63, 6, 1, 63);
        up("seats 6;hill 7;" + "rider loss 1;".repeat(7), NONE, NONE, NONE, 0, 127);
    }

    private static void fewOfSeveralTheLeast() {
        CHECK.by("FEW: the fewest RIDERS that GET UP (bits; of several the least)");
        up("hill 4;rider loss 2;rider loss 2;rider loss 4;rider loss 4;", 4);
        up("hill 4;rider loss 2;rider loss 2;rider loss 2;", 3);
        up("hill 4;rider loss 1;rider loss 3;rider loss 2;rider loss 2;", 3);
        up("hill 4;rider loss 0;rider loss 3;rider loss 1;rider loss 2;rider loss 2;", 6);
        up("hill 60;" + "rider loss 0;".repeat(7) + "rider loss 60;", 128);
        up("hill 1;rider loss 9;rider loss 1;", 1);
    }

    private static void lightOfAllKindsAlike() {
        CHECK.by("LIGHT: the set that GETS UP of the least OUNCES at first, all KINDS' alike; of several the least");
        up("hill 10;rider loss 10;rider love 5;rider shame 20;", 1, 2, 5);
        up("hill 10;rider shame 20;rider loss 10;rider loss 10;", 1, 2, 10);
        up("hill 4;rider loss 4;rider loss 2;rider loss 2;", 1, 1, 4);
        up("hill 4;rider loss 2;rider loss 2;rider loss 4;", 4, 3, 4);
        up("hill 4;rider false 0;rider loss 4;rider false 0;", 2, 2, 4);
        up("hill 1;hill 1;rider loss 2;rider loss 1;rider loss 1;", 1, 1, 2);
    }

    private static void theEmptySetGetsUp() {
        CHECK.by("a set of RIDERS: the empty one is one, too, where no RIDER is asked for");
        up("", 0, 0, 0, 0, 0);
        up("hill 0;", 0, 0, 0, 0, 0);
        up("hill 0;rider loss 0;rider loss 7;", 0, 0, 0, 2, 0);
        up("hill 0;rider loss 7;", 0, 0, 0, 1, 0);
        up("rider loss 7;", 0, 0, 0, 1, 0);
        up("hill 1;", NONE, NONE, NONE, 0, 0);
        up("hill 1;rider loss 0;rider false 60;", NONE, NONE, NONE, 0, 3);
    }

    private static void tramsEachWithARider() {
        CHECK.by("TRAMS: the most trams that GET UP at once, each with a RIDER, no RIDER in two");
        String eight = "rider loss 1;".repeat(8);
        int[] due = {8, 8, 4, 2, 2, 1, 1, 0};
        for (int height = 0; height < due.length; height++) {
            GriefTram x = Check.withLine("seats 6;hill " + height + ";" + eight);
            CHECK.due("trams against " + height, x.up(0, 3), due[height]);
        }
        CHECK.due("nobody, no hills", Check.withLine("").up(0, 3), 0);
        CHECK.due("false ones, no hills", Check.withLine("rider false 0;rider false 1;").up(0, 3), 2);
        // 5 and 1, 4 and 2: not 5 and 4
        CHECK.due("two by two", Check.withLine("hill 6;rider loss 5;rider loss 4;rider loss 2;rider loss 1;").up(0, 3), 2);
        CHECK.due("each of its own seats", Check.withLine("seats 1;hill 1;" + eight).up(0, 3), 8);
    }

    private static void neededAndAllIfNone() {
        CHECK.by("NEEDED: RIDERS (bits) without each of whom alone no tram GETS UP .. (all are NEEDED, if none GETS UP at all)");
        up("hill 5;rider loss 5;rider loss 5;", 1, 1, 5, 2, 0);
        up("hill 5;rider loss 5;rider loss 4;", 1, 1, 5, 1, 1);
        up("hill 6;rider loss 5;rider loss 1;rider loss 1;", 3, 3, 6, 1, 1);
        up("hill 99;" + "rider loss 1;".repeat(8), NONE, NONE, NONE, 0, 255);
        up("hill 0;" + "rider loss 1;".repeat(8), 0, 0, 0, 8, 0);
        up("hill 9;", NONE, NONE, NONE, 0, 0);
        // the others have no seats for all of them
        up("seats 2;hill 4;rider loss 3;rider loss 1;rider loss 1;rider loss 1;rider loss 1;", 3, 3, 4, 1, 1);
    }

    private static void upOfNone() {
        CHECK.by("NONE: none GETS UP (0, 1, 2), there is none such, or for another what");
        GriefTram x = Check.withLine("hill 1;rider loss 1;");
        CHECK.stretch("up", what -> x.up(0, what), -9, -1, NONE);
        CHECK.stretch("up", what -> x.up(0, what), 0, 60, NONE, 1, 1, 1, 1, 1);
        CHECK.far("up", what -> x.up(0, what), NONE);
        for (int i = 0; i <= 4; i++) {
            int what = i;
            noLine("up " + what, line -> x.up(line, what), NONE);
        }
    }

    // ---- ROUNDS, and what is NONE as it

    private static void roundsUntilItStalls() {
        CHECK.by("ROUNDS of a set: how often it gets from STOP 0 to the last one, back each time, until it STALLS");
        for (int ounces : new int[] {0, 1, 2, 59, 60}) {
            CHECK.due("against 1", Check.withLine("hill 1;rider loss " + ounces + ";").rounds(0, 1), ounces);
            CHECK.due("against 1, 1", Check.withLine("hill 1;hill 1;rider loss " + ounces + ";").rounds(0, 1), ounces / 2);
            CHECK.due("against 0, 1", Check.withLine("hill 0;hill 1;rider loss " + ounces + ";").rounds(0, 1), ounces / 2);
        }
        CHECK.due("worn to nought", Check.withLine("hill 1;rider loss 60;wear loss 9;").rounds(0, 1), 7);
        CHECK.due("nobody", Check.withLine("hill 1;rider loss 60;").rounds(0, 0), 0);
        CHECK.due("false ones", Check.withLine("hill 1;rider false 60;").rounds(0, 1), 0);
    }

    private static void roundsAHundredOrMore() {
        CHECK.by("(100: 100 times or more)");
        CHECK.due("never worn", Check.withLine("hill 60;rider loss 60;wear loss 0;").rounds(0, 1), 100);
        CHECK.due("nobody against 0", Check.withLine("hill 0;").rounds(0, 0), 100);
        CHECK.due("nobody, no hills", Check.withLine("").rounds(0, 0), 100);
        CHECK.due("one against 0", Check.withLine("hill 0;rider loss 1;").rounds(0, 1), 100);
        CHECK.due("one of them never worn", Check.withLine("hill 3;rider loss 9;rider love 2;wear love 0;").rounds(0, 3), 100);
        CHECK.due("and too little", Check.withLine("hill 3;rider loss 9;rider love 1;wear love 0;").rounds(0, 3), 9);
    }

    private interface Asked {
        int of(GriefTram x, int line, int set);
    }

    private static void asRounds() {
        CHECK.by("NONE: not all of the set have SEATS, one is not there, or there is none such");
        likeRounds("rounds", 0, true, (x, line, set) -> x.rounds(line, set));
        likeRounds("calm", 0, false, (x, line, set) -> x.calm(line, set, 0, 0));
        likeRounds("plea", 0, true, (x, line, set) -> x.plea(line, set));
        likeRounds("spared", 0, true, (x, line, set) -> x.spared(line, set));
        likeRounds("news", 1, false, (x, line, set) -> x.news(line, set));
        likeRounds("slack", 0, true, (x, line, set) -> x.slack(line, set, false));
        likeRounds("slack's hill", 0, true, (x, line, set) -> x.slack(line, set, true));
        likeRounds("orders", 0, true, (x, line, set) -> (int) x.orders(line, set));
        likeRounds("one by turns", 0, true, (x, line, set) -> x.byTurns(line, set, 0));
        likeRounds("other by turns", 0, true, (x, line, set) -> x.byTurns(line, 0, set));
    }

    /** By such a hill each set that has seats, the empty one only if it may, has an answer. */
    private static void likeRounds(String call, int hill, boolean emptyMay, Asked asked) {
        for (int[] row : new int[][] {{0, 1}, {1, 1}, {3, 2}, {8, 1}, {8, 6}}) {
            int riders = row[0];
            int seats = row[1];
            GriefTram x = Check.withLine("seats " + seats + ";hill " + hill + ";" + "rider loss 9;".repeat(riders));
            String of = riders + " riders, " + seats + " seats, " + call;
            ofSets(of, set -> asked.of(x, 0, set), riders, seats, emptyMay);
            noLine(of, line -> asked.of(x, line, riders == 0 ? 0 : 1), NONE);
        }
    }

    // ---- CALM and COUPLES

    private static void calmLeastGreatest() {
        CHECK.by("CALM of a set, k, 0 .. 9: .. share k times: the least that the greatest OUNCES of one can be then");
        GriefTram x = Check.withLine("rider loss 60;rider love 0;rider shame 20;rider false 20;");
        for (int k = 0; k <= 9; k++) {
            CHECK.due("60 and 0, k " + k, x.calm(0, 3, k, 0), 60 - k);
            CHECK.due("one alone, k " + k, x.calm(0, 1, k, 0), 60);
            CHECK.due("one of 0, k " + k, x.calm(0, 2, k, 0), 0);
            CHECK.due("60 amid two, k " + k, x.calm(0, 13, k, 0), 60 - 2 * k);
        }
        GriefTram near = Check.withLine("rider loss 5;rider loss 4;rider loss 3;");
        CHECK.due("5 and 4 share nothing", near.calm(0, 3, 9, 0), 5);
        CHECK.due("5 and 3 share", near.calm(0, 5, 1, 0), 4);
        CHECK.due("both orders", near.calm(0, 5, 1, 1), 2);
        // 5, 3, 4 and 4, 3, 5: the five gives; 5, 4, 3: the four and the three share nothing
        CHECK.due("5, 4, 3", near.calm(0, 7, 1, 0), 4);
    }

    private static void calmFirstOrder() {
        CHECK.by("the first order by numbers; by how many orders it is that");
        GriefTram six = Check.withLine("seats 6;" + "rider loss 7;".repeat(8));
        CHECK.due("720 orders", six.calm(0, 252, 9, 1), 720);
        CHECK.stretch("seat", what -> six.calm(0, 252, 9, what), 10, 19, NONE, 2, 3, 4, 5, 6, 7);
        CHECK.due("one order", six.calm(0, 128, 0, 1), 1);
        CHECK.stretch("seat", what -> six.calm(0, 128, 0, what), 10, 19, NONE, 7);
        GriefTram x = Check.withLine("rider loss 0;rider loss 0;rider loss 9;");
        // 9 in the midst: 0 and 1 beside it, in two orders
        CHECK.due("9 in the midst", x.calm(0, 7, 1, 0), 7);
        CHECK.due("two orders", x.calm(0, 7, 1, 1), 2);
        CHECK.stretch("seat", what -> x.calm(0, 7, 1, what), 10, 19, NONE, 0, 2, 1);
        CHECK.due("all orders by k 0", x.calm(0, 7, 0, 1), 6);
        CHECK.stretch("seat", what -> x.calm(0, 7, 0, what), 10, 19, NONE, 0, 1, 2);
    }

    private static void calmOfNone() {
        CHECK.by("NONE: the set is empty, or as rounds(); another k, or for another what");
        GriefTram x = Check.withLine(THREE);
        CHECK.due("the empty set", x.calm(0, 0, 0, 0), NONE);
        CHECK.due("its orders", x.calm(0, 0, 0, 1), NONE);
        CHECK.due("its seat", x.calm(0, 0, 0, 10), NONE);
        CHECK.stretch("k", k -> x.calm(0, 3, k, 1), -9, -1, NONE);
        CHECK.stretch("k", k -> x.calm(0, 3, k, 1), 0, 20, NONE, 2, 2, 2, 2, 2, 2, 2, 2, 2, 2);
        CHECK.far("k", k -> x.calm(0, 3, k, 1), NONE);
        CHECK.stretch("what", what -> x.calm(0, 6, 3, what), -20, -1, NONE);
        CHECK.stretch("what", what -> x.calm(0, 6, 3, what), 0, 9, NONE, 9, 2);
        CHECK.stretch("what", what -> x.calm(0, 6, 3, what), 10, 60, NONE, 1, 2);
        CHECK.far("what", what -> x.calm(0, 6, 3, what), NONE);
    }

    private static void couplesUpwards() {
        CHECK.by("in couples each bears half of both (upwards): the least that the greatest of all can be");
        int[][] due = {{0, 0, 0}, {0, 1, 1}, {1, 1, 1}, {1, 2, 2}, {59, 60, 60}, {60, 60, 60}, {0, 60, 30}};
        for (int[] row : due) {
            GriefTram x = Check.withLine("seats 1;rider loss " + row[0] + ";rider love " + row[1] + ";");
            CHECK.due(row[0] + " and " + row[1], x.couples(0, 3, false), row[2]);
            CHECK.due("one way", x.couples(0, 3, true), 1);
        }
        GriefTram none = Check.withLine("rider loss 0;rider love 0;");
        CHECK.due("ways of 0 and 0", none.couples(0, 3, true), 1);
        CHECK.due("0 and 0 behind their ways", none.couples(0, 3, false), 0);
        GriefTram four = Check.withLine("rider loss 0;rider love 10;rider shame 20;rider false 30;");
        CHECK.due("0 30, 10 20", four.couples(0, 15, false), 15);
        CHECK.due("one way", four.couples(0, 15, true), 1);
        CHECK.due("0 10", four.couples(0, 3, false), 5);
    }

    private static void couplesWays() {
        CHECK.by("in how many ways of putting them in couples it is that");
        int[] due = {1, 3, 15, 105};
        GriefTram x = Check.withLine("seats 1;" + "rider loss 5;".repeat(8));
        for (int couples = 1; couples <= 4; couples++) {
            CHECK.due(couples + " couples", x.couples(0, (1 << 2 * couples) - 1, true), due[couples - 1]);
            CHECK.due(couples + " couples bear", x.couples(0, (1 << 2 * couples) - 1, false), 5);
        }
        GriefTram y = Check.withLine("rider loss 9;rider loss 1;rider loss 1;rider loss 0;");
        // 9 0: 5, and 1 1; 9 1: 5, and 1 0
        CHECK.due("9 1 1 0", y.couples(0, 15, false), 5);
        CHECK.due("all three ways", y.couples(0, 15, true), 3);
    }

    private static void couplesOfNone() {
        CHECK.by("NONE: an odd number, none, one is not there, or there is none such");
        for (int riders : new int[] {0, 1, 4, 8}) {
            for (boolean ways : new boolean[] {false, true}) {
                GriefTram x = Check.withLine("seats 1;" + "rider loss 3;".repeat(riders));
                for (int set = -3; set <= 260; set++) {
                    boolean may = set > 0 && set < 1 << riders && Integer.bitCount(set) % 2 == 0;
                    CHECK.due(riders + " riders, couples of " + set, x.couples(0, set, ways) == NONE, !may);
                }
                CHECK.far("couples", set -> x.couples(0, set, ways), NONE);
                CHECK.due("a high bit", x.couples(0, 1 << 31 | 1, ways), NONE);
                noLine("couples", line -> x.couples(line, 3, ways), NONE);
            }
        }
        CHECK.due("least", Check.withLine(THREE).couples(0, LEAST, true), NONE);
        CHECK.due("greatest", Check.withLine(THREE).couples(0, GREATEST, true), NONE);
    }
}
