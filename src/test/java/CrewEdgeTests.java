import java.util.function.IntUnaryOperator;

/** The edges that Terms 6, 7 and promises 22 to 31 name; SetEdgeTests has what is NONE as rounds(). */
public final class CrewEdgeTests {
    private static final Check CHECK = new Check("CrewEdgeTests");
    private static final int NONE = GriefTram.NONE;

    public static void main(String[] args) {
        pleaLeastThatLetsItUp();
        pleaUpToNinetyNine();
        pleaByNone();
        bearsWhereItComesTo();
        bearsLast();
        bearsOfNone();
        sparedOfASetThatGetsUp();
        sparedOfNone();
        againstByFewest();
        againstOfNone();
        manySets();
        worstHill();
        worstOfNone();
        setsOfNone();
        byTurnsTheFirstOneFirst();
        byTurnsAHundredOrMore();
        byTurnsOfNone();
        newsLeastThatStalls();
        newsOfNone();
        slackLeast();
        slackOfNone();
        ordersOfAllHills();
        ordersOfUnlikeHills();
        halvesLeastDifference();
        halvesTramOfRiderNought();
        halvesOfNone();
        CHECK.end();
    }

    /** One line is there. */
    private static void noLine(String call, IntUnaryOperator ask, int none) {
        for (int line : new int[] {-2, -1, 1, 2, 3}) {
            CHECK.due(call + " of line " + line, ask.applyAsInt(line), none);
        }
        CHECK.far(call + " of line", ask, none);
    }

    // ---- PLEA, BEARS, SPARED

    private static void plea(String line, int set, int due) {
        CHECK.due("plea of " + set + " of " + line, Check.withLine(line).plea(0, set), due);
    }

    private static void pleaLeastThatLetsItUp() {
        CHECK.by("PLEA of a set: the least n, 0 .. 99, that, told ahead of all (as tell), lets it GET UP");
        plea("hill 6;rider loss 6;", 1, 0);
        plea("hill 7;rider loss 6;", 1, 1);
        plea("hill 6;hill 6;rider loss 6;", 1, 1);
        plea("hill 7;rider love 0;", 1, 4);
        plea("hill 7;rider shame 0;", 1, 14);
        plea("hill 7;rider shame 1;", 1, 13);
        plea("hill 10;rider loss 0;rider loss 0;", 3, 5);
        plea("hill 11;rider loss 0;rider loss 0;", 3, 6);
        plea("hill 11;rider loss 0;rider loss 11;", 1, 11);
        plea("hill 0;rider loss 0;", 1, 0);
        plea("rider false 0;", 1, 0);
    }

    private static void pleaUpToNinetyNine() {
        CHECK.by("n, 0 .. 99; as tell: 99 at most");
        plea("hill 98;rider loss 0;", 1, 98);
        plea("hill 99;rider loss 0;", 1, 99);
        plea("hill 98;hill 98;rider loss 0;", 1, 99);
        plea("hill 98;hill 99;rider loss 0;", 1, NONE);
        plea("hill 99;rider loss 60;", 1, 39);
        plea("hill 99;hill 99;rider loss 60;", 1, NONE);
        plea("hill 99;hill 99;rider loss 60;wear loss 0;", 1, 39);
        plea("hill 49;rider shame 0;", 1, 98);
        plea("hill 50;rider shame 0;", 1, NONE);
        plea("hill 50;rider shame 60;", 1, NONE);
    }

    private static void pleaByNone() {
        CHECK.by("NONE: by none");
        plea("hill 1;rider false 60;", 1, NONE);
        plea("hill 1;rider loss 60;", 0, NONE);
        plea("hill 0;rider loss 60;", 0, 0);
        plea("", 0, 0);
    }

    private static void bearsWhereItComesTo() {
        CHECK.by("BEARS: what a RIDER of a set has left, where it COMES to from STOP 0");
        GriefTram x = Check.withLine("hill 9;hill 8;hill 8;rider loss 9;rider love 3;rider false 5;wear love 2;wear false 9;");
        CHECK.due("9, 8, then it stalls", x.bears(0, 1, 0), 7);
        CHECK.due("stalled at once", x.bears(0, 2, 1), 3);
        CHECK.due("false, stalled at once", x.bears(0, 4, 2), 5);
        CHECK.due("15, 10, 7", x.bears(0, 3, 1), 0);
        CHECK.due("and the other one", x.bears(0, 3, 0), 7);
        CHECK.due("worn to nought", x.bears(0, 7, 2), 0);
        CHECK.due("no hills", Check.withLine("rider loss 60;").bears(0, 1, 0), 60);
        CHECK.due("of none", Check.withLine("hill 0;rider loss 0;").bears(0, 1, 0), 0);
        GriefTram full = Check.withLine("seats 1;hill 1;" + "rider loss 5;".repeat(8));
        CHECK.due("without seats", full.bears(0, 255, 7), 4);
    }

    private static void bearsLast() {
        CHECK.by("LAST: the RIDER of a set who has least left where it COMES to, of several the least number");
        GriefTram x = Check.withLine("hill 1;rider loss 5;rider love 4;rider love 6;rider loss 5;wear loss 3;seats 1;");
        // behind the hill: 2, 3, 5, 2
        CHECK.due("of all", x.bears(0, 15, NONE), 0);
        CHECK.due("of 1, 2", x.bears(0, 6, NONE), 1);
        CHECK.due("of 1, 2, 3", x.bears(0, 14, NONE), 3);
        CHECK.due("of 0, 3", x.bears(0, 9, NONE), 0);
        CHECK.due("of one", x.bears(0, 4, NONE), 2);
        GriefTram stalls = Check.withLine("hill 50;rider loss 5;rider love 4;wear loss 3;");
        CHECK.due("as it is where it stalls", stalls.bears(0, 3, NONE), 1);
        CHECK.due("rider 7", Check.withLine("rider loss 1;".repeat(7) + "rider loss 0;").bears(0, 255, NONE), 7);
        CHECK.by("NONE for an empty set");
        CHECK.due("of the empty set", x.bears(0, 0, NONE), NONE);
        CHECK.due("of no riders", Check.withLine("").bears(0, 0, NONE), NONE);
    }

    private static void bearsOfNone() {
        CHECK.by("-2: he is not in the set, one is not there, or there is none such");
        for (int riders : new int[] {0, 1, 3, 8}) {
            for (int rider = -3; rider <= 9; rider++) {
                GriefTram x = Check.withLine("seats 1;" + "rider loss 4;".repeat(riders));
                for (int set = -3; set <= 260; set++) {
                    boolean there = set >= 0 && set < 1 << riders;
                    boolean in = rider >= 0 && rider < 8 && there && (set >> rider & 1) == 1;
                    int last = set == 0 ? NONE : Integer.numberOfTrailingZeros(set);
                    int due = !there ? -2 : rider == NONE ? last : in ? 4 : -2;
                    CHECK.due(riders + " riders, bears of " + set + " " + rider, x.bears(0, set, rider), due);
                }
                int of = rider;
                CHECK.far("set", set -> x.bears(0, set, of), -2);
                noLine("bears", line -> x.bears(line, 1, of), -2);
                CHECK.far("rider", far -> x.bears(0, 1, far), -2);
            }
        }
        GriefTram x = Check.withLine("rider loss 4;");
        CHECK.due("rider 32", x.bears(0, 1, 32), -2);
        CHECK.due("rider -32", x.bears(0, 1, -32), -2);
    }

    private static void sparedOfASetThatGetsUp() {
        CHECK.by("SPARED of a set that GETS UP: those (bits) without each of whom alone it still does");
        GriefTram x = Check.withLine("hill 6;rider loss 5;rider loss 1;rider loss 1;rider false 9;");
        CHECK.due("5 1 1 false", x.spared(0, 15), 2 | 4 | 8);
        CHECK.due("5 1", x.spared(0, 3), 0);
        CHECK.due("5 1 false", x.spared(0, 11), 8);
        GriefTram easy = Check.withLine("hill 0;seats 6;" + "rider loss 1;".repeat(8));
        CHECK.due("all of six", easy.spared(0, 252), 252);
        CHECK.due("one, without whom it is empty", easy.spared(0, 128), 128);
        CHECK.due("the empty set", easy.spared(0, 0), 0);
        CHECK.due("no hills", Check.withLine("rider loss 0;").spared(0, 1), 1);
    }

    private static void sparedOfNone() {
        CHECK.by("NONE: it does not GET UP");
        GriefTram x = Check.withLine("hill 6;rider loss 5;rider loss 6;");
        CHECK.due("5", x.spared(0, 1), NONE);
        CHECK.due("6", x.spared(0, 2), 0);
        CHECK.due("the empty set", x.spared(0, 0), NONE);
        CHECK.due("it stalls at the last", Check.withLine("hill 1;hill 5;rider loss 5;").spared(0, 1), NONE);
    }

    // ---- AGAINST, MANY, WORST

    private static void againstByFewest() {
        CHECK.by("AGAINST a HILL: the fewest RIDERS (bits; of several the least) who PULL as much as it, or more, at first");
        GriefTram x = Check.withLine("hill 7;hill 8;hill 0;hill 1;rider loss 4;rider love 2;rider shame 8;rider loss 7;wear loss 9;");
        CHECK.stretch("hill", hill -> x.against(0, hill), 0, 9, NONE, 8, 3, 0, 1);
        CHECK.by("AGAINST: .. (they need SEATS)");
        GriefTram two = Check.withLine("seats 2;hill 3;hill 2;rider loss 1;rider loss 1;rider loss 1;");
        CHECK.stretch("hill", hill -> two.against(0, hill), 0, 9, NONE, NONE, 3);
        GriefTram all = Check.withLine("seats 6;hill 6;hill 7;" + "rider loss 1;".repeat(8));
        CHECK.stretch("hill", hill -> all.against(0, hill), 0, 9, NONE, 63, NONE);
    }

    private static void againstOfNone() {
        CHECK.by("NONE: by none, or there is none such (of either)");
        GriefTram x = Check.withLine("hill 1;hill 0;rider false 60;");
        CHECK.stretch("hill", hill -> x.against(0, hill), -9, -1, NONE);
        CHECK.stretch("hill", hill -> x.against(0, hill), 0, 20, NONE, NONE, 0);
        CHECK.far("hill", hill -> x.against(0, hill), NONE);
        noLine("against", line -> x.against(line, 1), NONE);
        CHECK.due("no riders", Check.withLine("hill 0;").against(0, 0), 0);
        CHECK.due("no hills", Check.withLine("rider loss 1;").against(0, 0), NONE);
    }

    private static void sets(String line, int... due) {
        GriefTram x = Check.withLine(line);
        CHECK.stretch(line + " sets", what -> x.sets(0, what), 0, 9, -2, due);
    }

    private static void manySets() {
        CHECK.by("MANY: how many sets GET UP");
        sets("seats 6;hill 0;" + "rider loss 1;".repeat(8), 247, NONE, NONE);
        sets("seats 1;hill 0;" + "rider loss 1;".repeat(8), 9, NONE, NONE);
        sets("", 1, NONE, NONE);
        sets("hill 0;".repeat(8) + "rider loss 0;", 2, NONE, NONE);
        sets("rider loss 0;", 2, NONE, NONE);
        sets("hill 1;", 0, 0, 1);
        sets("hill 1;rider loss 1;", 1, 0, 1);
        sets("hill 9;rider loss 1;", 0, 0, 2);
    }

    private static void worstHill() {
        CHECK.by("WORST: the HILL at which most sets of RIDERS that have SEATS STALL, coming from STOP 0; .. how many");
        sets("hill 1;hill 2;hill 9;rider loss 1;rider loss 5;rider loss 5;", 0, 2, 6);
        sets("seats 1;hill 1;hill 9;rider loss 1;rider loss 5;rider loss 5;", 0, 1, 3);
        sets("hill 0;hill 0;hill 0;hill 0;hill 0;hill 0;hill 0;hill 60;rider loss 1;", 0, 7, 2);
        CHECK.by("WORST: .. of several the first");
        sets("hill 1;hill 2;rider loss 1;", 0, 0, 1);
        sets("hill 0;hill 1;hill 2;rider loss 2;", 0, 1, 1);
    }

    private static void worstOfNone() {
        CHECK.by("(1, 2: NONE: none)");
        sets("hill 0;hill 0;rider false 1;", 2, NONE, NONE);
        sets("", 1, NONE, NONE);
    }

    private static void setsOfNone() {
        CHECK.by("-2: there is none such, or for another what");
        GriefTram x = Check.withLine("hill 1;rider loss 1;");
        CHECK.stretch("sets", what -> x.sets(0, what), -9, -1, -2);
        CHECK.stretch("sets", what -> x.sets(0, what), 0, 60, -2, 1, 0, 1);
        CHECK.far("sets", what -> x.sets(0, what), -2);
        for (int i = 0; i <= 2; i++) {
            int what = i;
            noLine("sets " + what, line -> x.sets(line, what), -2);
        }
    }

    // ---- BY TURNS

    private static void turns(String line, int one, int other, int due) {
        CHECK.due("by turns " + one + " " + other + " of " + line, Check.withLine(line).byTurns(0, one, other), due);
    }

    private static void byTurnsTheFirstOneFirst() {
        CHECK.by("BY TURNS, of two sets: .. the first one first, each as worn as it is then: how many times in all .. till one STALLS");
        String line = "hill 1;rider loss 3;rider loss 1;rider loss 0;";
        turns(line, 1, 2, 3);
        turns(line, 2, 1, 2);
        turns(line, 1, 4, 1);
        turns(line, 4, 1, 0);
        turns(line, 1, 0, 1);
        turns(line, 0, 1, 0);
        turns("hill 1;hill 1;rider loss 3;rider loss 4;", 1, 2, 2);
        turns("hill 1;hill 1;rider loss 3;rider loss 4;", 2, 1, 3);
    }

    private static void byTurnsAHundredOrMore() {
        CHECK.by("(100: 100 times or more)");
        String line = "hill 1;rider loss 49;rider loss 50;rider loss 51;rider loss 60;rider loss 50;";
        turns(line, 1, 2, 98);
        turns(line, 2, 1, 99);
        turns(line, 2, 16, 100);
        turns(line, 2, 4, 100);
        turns(line, 4, 2, 100);
        turns(line, 8, 4, 100);
        turns("hill 0;", 0, 0, 100);
        turns("", 0, 0, 100);
        turns("hill 9;rider loss 9;rider loss 9;wear loss 0;", 1, 2, 100);
    }

    private static void byTurnsOfNone() {
        CHECK.by("NONE: one RIDER is in both, or as rounds() (of either)");
        GriefTram x = Check.withLine("seats 2;hill 0;rider loss 1;rider loss 1;rider loss 1;rider loss 1;");
        for (int one = 0; one < 18; one++) {
            for (int other = 0; other < 18; other++) {
                boolean may = one < 16 && other < 16 && Integer.bitCount(one) <= 2 && Integer.bitCount(other) <= 2
                    && (one & other) == 0;
                CHECK.due("by turns " + one + " " + other, x.byTurns(0, one, other), may ? 100 : NONE);
            }
        }
        noLine("by turns", line -> x.byTurns(line, 1, 2), NONE);
    }

    // ---- NEWS, SLACK

    private static void newsLeastThatStalls() {
        CHECK.by("NEWS for a set that GETS UP: the least n, 1 .. 99, that, joked ahead of all (as joke), makes it STALL");
        for (int ounces : new int[] {1, 2, 59, 60}) {
            CHECK.due("loss " + ounces, Check.withLine("hill 1;rider loss " + ounces + ";").news(0, 1), ounces);
            CHECK.due("just so much", Check.withLine("hill " + ounces + ";rider loss " + ounces + ";").news(0, 1), 1);
        }
        CHECK.due("shame", Check.withLine("hill 2;rider shame 7;").news(0, 1), 4);
        CHECK.due("love", Check.withLine("hill 3;rider love 7;").news(0, 1), 6);
        CHECK.due("0 at least", Check.withLine("hill 5;rider loss 2;rider loss 20;").news(0, 3), 16);
        CHECK.due("at the last hill", Check.withLine("hill 0;hill 0;hill 5;rider loss 9;").news(0, 1), 3);
    }

    private static void newsOfNone() {
        CHECK.by("NONE: by none, it does not GET UP");
        CHECK.due("against 0", Check.withLine("hill 0;rider loss 60;").news(0, 1), NONE);
        CHECK.due("no hills", Check.withLine("rider loss 60;").news(0, 1), NONE);
        CHECK.due("nobody against 0", Check.withLine("hill 0;").news(0, 0), NONE);
        CHECK.due("nobody against 1", Check.withLine("hill 1;").news(0, 0), NONE);
        CHECK.due("it does not get up", Check.withLine("hill 6;rider loss 5;").news(0, 1), NONE);
        CHECK.due("at the last hill", Check.withLine("hill 0;hill 5;rider loss 5;").news(0, 1), NONE);
    }

    private static void slack(String line, int set, int least, int hill) {
        GriefTram x = Check.withLine(line);
        CHECK.due("slack of " + set + " of " + line, x.slack(0, set, false), least);
        CHECK.due("slack's hill of " + set + " of " + line, x.slack(0, set, true), hill);
    }

    private static void slackLeast() {
        CHECK.by("SLACK of a set that GETS UP: the least that it PULLS more than a HILL, as it comes to each; that HILL");
        slack("hill 5;rider loss 5;", 1, 0, 0);
        slack("hill 5;rider loss 6;", 1, 1, 0);
        slack("hill 0;rider love 60;", 1, 120, 0);
        slack("hill 0;hill 5;hill 2;rider loss 9;", 1, 3, 1);
        slack("hill 0;".repeat(8) + "rider loss 9;", 1, 2, 7);
        slack("hill 0;", 0, 0, 0);
        CHECK.by("SLACK: .. of several the first");
        slack("hill 5;hill 4;hill 3;rider loss 7;", 1, 2, 0);
        slack("hill 4;hill 4;hill 3;rider loss 7;", 1, 2, 1);
        slack("hill 3;hill 3;hill 3;rider loss 3;wear loss 0;", 1, 0, 0);
    }

    private static void slackOfNone() {
        CHECK.by("NONE: there are no HILLS, it does not GET UP");
        slack("rider loss 5;", 1, NONE, NONE);
        slack("rider loss 5;", 0, NONE, NONE);
        slack("hill 6;rider loss 5;", 1, NONE, NONE);
        slack("hill 0;hill 5;rider loss 5;", 1, NONE, NONE);
        slack("hill 1;rider loss 5;", 0, NONE, NONE);
    }

    // ---- ORDERS, HALVES

    private static void orders(String line, int set, long due) {
        CHECK.due("orders of " + set + " of " + line, Check.withLine(line).orders(0, set), due);
    }

    private static void ordersOfAllHills() {
        CHECK.by("ORDERS of a set: in how many orders of all HILLS of the LINE it would GET UP");
        orders("rider loss 5;", 1, 1);
        orders("", 0, 1);
        orders("hill 6;rider loss 5;", 1, 0);
        orders("hill 5;rider loss 5;", 1, 1);
        orders("hill 0;hill 5;rider loss 5;", 1, 1);
        orders("hill 5;hill 4;rider loss 5;", 1, 1);
        orders("hill 5;hill 5;rider loss 5;", 1, 0);
        orders("hill 1;hill 2;hill 3;hill 4;hill 5;hill 6;hill 7;hill 8;rider loss 8;", 1, 1);
        orders("hill 1;hill 2;hill 3;hill 4;hill 5;hill 6;hill 7;hill 8;rider loss 9;", 1, 128);
        orders("hill 1;hill 2;hill 3;hill 4;hill 5;hill 6;hill 7;hill 8;rider loss 7;", 1, 0);
    }

    private static void ordersOfUnlikeHills() {
        CHECK.by("(HILLS of like height are unlike ones)");
        orders("hill 0;".repeat(8), 0, 40320);
        orders("hill 9;".repeat(8) + "rider loss 16;", 1, 40320);
        orders("hill 9;".repeat(8) + "rider loss 15;", 1, 0);
        orders("hill 9;".repeat(7) + "hill 0;rider loss 15;", 1, 5040);
        orders("hill 3;hill 3;", 0, 0);
    }

    private static void halves(String line, int difference, int tram) {
        GriefTram x = Check.withLine(line);
        CHECK.due("halves of " + line, x.halves(0, false), difference);
        CHECK.due("halves' tram of " + line, x.halves(0, true), tram);
    }

    private static void halvesLeastDifference() {
        CHECK.by("HALVES: all RIDERS are put in two trams, each of which GETS UP, each with a RIDER: the least difference of OUNCES");
        halves("rider loss 60;rider false 0;", 60, 1);
        halves("rider false 0;rider loss 60;", 60, 1);
        halves("hill 2;rider loss 9;rider loss 2;rider loss 1;", 6, 1);
        halves("hill 2;rider loss 2;rider loss 9;rider loss 1;", 6, 5);
        halves("hill 3;rider loss 2;rider loss 9;rider loss 1;", 6, 5);
        halves("hill 1;rider shame 1;rider loss 5;rider loss 3;", 1, 5);
        halves("seats 4;hill 4;" + "rider loss 1;".repeat(8), 0, 15);
        halves("seats 6;hill 2;" + "rider loss 1;".repeat(8), 0, 15);
    }

    private static void halvesTramOfRiderNought() {
        CHECK.by("the tram (bits) that RIDER 0 is in, of several the least");
        halves("rider loss 1;rider loss 1;rider loss 1;", 1, 1);
        halves("rider loss 5;rider loss 5;rider loss 5;rider loss 5;", 0, 3);
        halves("rider loss 1;rider loss 9;rider loss 8;", 0, 5);
        halves("rider loss 9;rider loss 1;rider loss 8;", 0, 1);
        halves("rider loss 1;rider loss 2;rider loss 3;rider loss 0;", 0, 3);
    }

    private static void halvesOfNone() {
        CHECK.by("NONE: in no way, or there is none such");
        halves("", NONE, NONE);
        halves("rider loss 1;", NONE, NONE);
        halves("hill 5;rider loss 9;rider loss 4;", NONE, NONE);
        halves("hill 5;rider loss 9;rider loss 5;", 4, 1);
        halves("seats 1;rider loss 1;rider loss 1;rider loss 1;", NONE, NONE);
        halves("seats 3;" + "rider loss 1;".repeat(7), NONE, NONE);
        halves("seats 3;" + "rider loss 1;".repeat(6), 0, 7);
        GriefTram x = Check.withLine("rider loss 1;rider loss 1;");
        noLine("halves", line -> x.halves(line, false), NONE);
        noLine("halves' tram", line -> x.halves(line, true), NONE);
    }
}
