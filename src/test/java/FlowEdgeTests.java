import java.util.Arrays;

/** The edges that Terms 4 and promises 15 to 18 name: flows, when trams leave, sights, what fits. */
public final class FlowEdgeTests {
    private static final Check CHECK = new Check("FlowEdgeTests");
    private static final int NONE = GriefTram.NONE;
    private static final int HOURS = 24;

    public static void main(String[] args) {
        mostTramsOfNeedOrMore();
        behindWhatComesThen();
        waitTillTwentyFour();
        waitLeastOfSoManyTrams();
        theFirstRowOfHours();
        leavesOfNone();
        rushOfSeveralTheFirst();
        lullHoursOneBehindTheOther();
        dayOfAllThatCome();
        halfOrMore();
        steadyWhereverTheyBegin();
        flowOfNone();
        fitsAsMuchOrMore();
        strangersBearNoughtToNine();
        leastAndMost();
        askLeastOfTheGreater();
        askOfSeveralTheLeast();
        nothingFits();
        fitsOfNone();
        factCounts();
        factOfAnyWhat();
        factOfNone();
        CHECK.end();
    }

    private static GriefTram flowOf(String text) {
        return Check.with(Check.FLOW, text);
    }

    private static String atAll(int ounces) {
        StringBuilder text = new StringBuilder();
        for (int h = 0; h < HOURS; h++) {
            text.append("come ").append(h).append(' ').append(ounces).append(';');
        }
        return text.toString();
    }

    private static void leaves(String text, int wait, int... hours) {
        GriefTram x = flowOf(text);
        CHECK.stretch(text + " leaves", what -> x.leaves(0, what), 0, 9, NONE, hours.length, wait);
        CHECK.stretch(text + " leaves", what -> x.leaves(0, what), 10, 50, NONE, hours);
    }

    // ---- when trams leave

    private static void mostTramsOfNeedOrMore() {
        CHECK.by("trams leave at some hours .., each with all OUNCES that wait, NEED or more: MOST: the most trams");
        leaves("", 0);
        leaves("need 5;come 3 4;", 4 * 21);
        leaves("need 5;come 3 5;", 0, 3);
        leaves("need 5;come 3 6;", 0, 3);
        leaves("need 99;come 3 98;", 98 * 21);
        leaves("need 99;come 3 99;", 0, 3);
        leaves("need 1;come 3 1;", 0, 3);
        leaves("need 5;come 3 10;", 0, 3);
        leaves("need 5;come 3 3;come 4 2;come 5 3;come 6 2;", 3 + 3, 4, 6);
        // four wait for a fifth
        leaves("need 5;come 3 6;come 4 4;come 5 1;", 4, 3, 5);
    }

    private static void behindWhatComesThen() {
        CHECK.by("(behind what comes then)");
        leaves("need 7;come 0 7;", 0, 0);
        leaves("need 7;come 23 7;", 0, 23);
        leaves("need 7;come 0 3;come 23 4;", 3 * 23, 23);
        int[] all = new int[HOURS];
        for (int h = 0; h < HOURS; h++) {
            all[h] = h;
        }
        leaves("need 1;" + atAll(1), 0, all);
        leaves("need 99;" + atAll(99), 0, all);
        leaves("need 2;" + atAll(1), 12, 1, 3, 5, 7, 9, 11, 13, 15, 17, 19, 21, 23);
    }

    private static void waitTillTwentyFour() {
        CHECK.by("(those left: till 24)");
        leaves("need 9;come 0 1;", 24);
        leaves("need 9;come 23 1;", 1);
        leaves("need 99;come 0 98;", 98 * 24);
        leaves("need 9;come 10 9;come 23 1;", 1, 10);
        leaves("need 9;come 22 9;come 23 1;", 1, 22);
        leaves("need 9;come 22 9;come 23 8;", 8, 22);
        leaves("need 9;come 22 9;come 23 9;", 0, 22, 23);
    }

    private static void waitLeastOfSoManyTrams() {
        CHECK.by("WAIT: by so many trams, the least sum of OUNCES times hours from when they come till they leave");
        // one that comes at 20 waits 4 hours to the end; nine would wait 10 for it
        leaves("need 9;come 10 9;come 20 1;", 4, 10);
        // eight that come at 11 wait 13 hours to the end; nine wait 1 for them
        leaves("need 9;come 10 9;come 11 8;", 9, 11);
        // two trams, though one tram of all would wait less
        leaves("need 2;come 0 2;come 1 1;come 23 1;", 22, 0, 23);
        leaves("need 2;come 0 1;come 1 1;come 2 1;come 3 1;", 2, 1, 3);
        leaves("need 2;come 0 1;come 1 1;come 2 1;", 2 + 1, 2);
        leaves("need 2;come 0 1;come 1 1;come 20 1;", 1 + 4, 1);
    }

    private static void theFirstRowOfHours() {
        CHECK.by("the first row of hours of these by numbers (the first hour first)");
        leaves("need 3;come 3 3;", 0, 3);
        // two that come at 12 wait 12 to the end, or the twelve of 10 wait 2 for them: 24 each way
        leaves("need 3;come 10 12;come 12 2;", 24, 10);
        // two that come at 6 wait 2 hours for the second tram, or the four of 5 wait 1 for them
        leaves("need 4;come 5 4;come 6 2;come 8 4;", 4, 5, 8);
        // the second tram leaves at 10 or at 12
        leaves("need 4;come 5 4;come 10 6;come 12 1;", 12, 5, 10);
        leaves("need 4;come 11 2;come 12 2;come 13 2;come 14 2;", 4, 12, 14);
        leaves("need 4;come 11 12;come 23 12;", 0, 11, 23);
    }

    private static void leavesOfNone() {
        CHECK.by("NONE: there is none such (of either), or for another what");
        GriefTram x = flowOf("need 1;come 0 1;come 5 1;");
        CHECK.stretch("leaves", what -> x.leaves(0, what), -20, -1, NONE);
        CHECK.stretch("leaves", what -> x.leaves(0, what), 0, 9, NONE, 2, 0);
        CHECK.stretch("leaves", what -> x.leaves(0, what), 10, 99, NONE, 0, 5);
        CHECK.far("leaves", what -> x.leaves(0, what), NONE);
        for (int flow : new int[] {-2, -1, 1, 2, 3}) {
            CHECK.due("flow " + flow, x.leaves(flow, 0), NONE);
        }
        CHECK.far("flow", flow -> x.leaves(flow, 0), NONE);
        CHECK.due("no tram", flowOf("").leaves(0, 10), NONE);
        Check.tell(x, Check.FLOW, "need 1;come 7 1;");
        CHECK.due("the second flow", x.leaves(1, 10), 7);
        CHECK.due("the first one", x.leaves(0, 10), 0);
    }

    // ---- what comes

    private static void rushOfSeveralTheFirst() {
        CHECK.by("RUSH: the hour at which most come, of several the first");
        CHECK.due("none come", flowOf("").flow(0, 1), 0);
        CHECK.due("at 0", flowOf("come 0 1;").flow(0, 1), 0);
        for (int h = 1; h < HOURS; h++) {
            CHECK.due("at " + h, flowOf("come 0 1;come " + h + " 2;").flow(0, 1), h);
        }
        CHECK.due("of two", flowOf("come 5 9;come 4 9;come 3 8;").flow(0, 1), 4);
        CHECK.due("of all", flowOf(atAll(99)).flow(0, 1), 0);
        CHECK.due("of all but the last", flowOf(atAll(98) + "come 23 99;").flow(0, 1), 23);
    }

    private static void lullHoursOneBehindTheOther() {
        CHECK.by("LULL: the most hours one behind the other at which nothing comes");
        CHECK.due("all", flowOf("").flow(0, 3), 24);
        CHECK.due("none", flowOf(atAll(1)).flow(0, 3), 0);
        CHECK.due("behind 0", flowOf("come 0 1;").flow(0, 3), 23);
        CHECK.due("ahead of 23", flowOf("come 23 1;").flow(0, 3), 23);
        CHECK.due("the first hour", flowOf(atAll(1) + "come 0 0;").flow(0, 3), 1);
        CHECK.due("the last hour", flowOf(atAll(1) + "come 23 0;").flow(0, 3), 1);
        CHECK.due("first and last are not one", flowOf(atAll(1) + "come 0 0;come 23 0;").flow(0, 3), 1);
        CHECK.due("two and three", flowOf(atAll(1) + "come 3 0;come 4 0;come 9 0;come 10 0;come 11 0;").flow(0, 3), 3);
        CHECK.due("three and two", flowOf(atAll(1) + "come 2 0;come 3 0;come 4 0;come 9 0;come 10 0;").flow(0, 3), 3);
    }

    private static void dayOfAllThatCome() {
        CHECK.by("DAY: all that come");
        CHECK.due("none", flowOf("").flow(0, 4), 0);
        CHECK.due("at 0 and 23", flowOf("come 0 1;come 23 2;").flow(0, 4), 3);
        CHECK.due("most", flowOf(atAll(99)).flow(0, 4), 24 * 99);
    }

    private static void halfOrMore() {
        CHECK.by("HALF: the first hour at which half of these, or more, have come");
        CHECK.due("none come", flowOf("").flow(0, 5), 0);
        CHECK.due("just half", flowOf("come 3 5;come 9 5;").flow(0, 5), 3);
        CHECK.due("one less", flowOf("come 3 5;come 9 6;").flow(0, 5), 9);
        CHECK.due("one more", flowOf("come 3 6;come 9 5;").flow(0, 5), 3);
        CHECK.due("of one", flowOf("come 23 1;").flow(0, 5), 23);
        CHECK.due("of three", flowOf("come 3 1;come 4 1;come 5 1;").flow(0, 5), 4);
        CHECK.due("of all", flowOf(atAll(99)).flow(0, 5), 11);
        CHECK.due("at 0", flowOf("come 0 1;come 5 1;").flow(0, 5), 0);
        CHECK.due("not at 0", flowOf("come 0 3;come 9 5;").flow(0, 5), 9);
        CHECK.due("at 23", flowOf("come 22 3;come 23 5;").flow(0, 5), 23);
    }

    private static void steadyWhereverTheyBegin() {
        CHECK.by("STEADY: the fewest hours one behind the other, in which, wherever they begin (0 .. 24 less as many), NEED or more come");
        CHECK.due("one hour", flowOf("need 9;" + atAll(9)).flow(0, 2), 1);
        CHECK.due("two hours", flowOf("need 9;" + atAll(8)).flow(0, 2), 2);
        CHECK.due("the first hour lacks", flowOf("need 9;" + atAll(9) + "come 0 8;").flow(0, 2), 2);
        CHECK.due("the last hour lacks", flowOf("need 9;" + atAll(9) + "come 23 8;").flow(0, 2), 2);
        CHECK.due("at 0 alone", flowOf("need 9;come 0 9;").flow(0, 2), 24);
        CHECK.due("at 23 alone", flowOf("need 9;come 23 9;").flow(0, 2), 24);
        CHECK.due("at 12 alone", flowOf("need 9;come 12 9;").flow(0, 2), 13);
        CHECK.due("at 11 alone", flowOf("need 9;come 11 9;").flow(0, 2), 13);
        CHECK.by("2: STEADY (NONE: not by 24)");
        CHECK.due("one too few", flowOf("need 9;come 0 4;come 23 4;").flow(0, 2), NONE);
        CHECK.due("just by 24", flowOf("need 8;come 0 4;come 23 4;").flow(0, 2), 24);
        CHECK.due("none come", flowOf("need 1;").flow(0, 2), NONE);
    }

    private static void flowOfNone() {
        CHECK.by("NONE: there is none such, or for another what");
        GriefTram x = flowOf("need 3;" + atAll(7));
        int[] hours = new int[HOURS];
        Arrays.fill(hours, 7);
        CHECK.stretch("flow", what -> x.flow(0, what), -20, -1, NONE);
        CHECK.stretch("flow", what -> x.flow(0, what), 0, 9, NONE, 3, 0, 1, 0, 168, 11);
        CHECK.stretch("flow", what -> x.flow(0, what), 10, 99, NONE, hours);
        CHECK.far("flow", what -> x.flow(0, what), NONE);
        for (int flow : new int[] {-2, -1, 1, 2, 3}) {
            CHECK.due("flow " + flow, x.flow(flow, 0), NONE);
        }
        CHECK.far("of flow", flow -> x.flow(flow, 0), NONE);
        Check.tell(x, Check.FLOW, "need 4;");
        CHECK.due("flow 1", x.flow(1, 0), 4);
        CHECK.due("flow 2", x.flow(2, 0), NONE);
    }

    // ---- sights

    private static void fits(String text, int what, int due) {
        CHECK.due("fits " + what + " of " + text, Check.with(Check.SIGHT, text).fits(0, what), due);
    }

    private static void fitsAsMuchOrMore() {
        CHECK.by("FITS: .. each set CLIMBED told has as much together as that hill, or more, each that STALLED less");
        for (int hill = 1; hill <= 36; hill++) {
            int climb = Math.max(0, 10 - hill);
            fits("many 1;climbed 1 " + hill + ";", 0, climb);
            fits("many 1;stalled 1 " + hill + ";", 0, 10 - climb);
        }
        fits("climbed 3 18;", 0, 1);
        fits("climbed 3 19;", 0, 0);
        fits("stalled 3 1;", 0, 1);
        fits("stalled 3 2;", 0, 3);
        fits("many 4;climbed 15 36;", 0, 1);
        fits("many 4;stalled 15 36;", 0, 9999);
        fits("many 4;stalled 15 1;", 0, 1);
        fits("many 3;climbed 5 18;", 0, 10);
        fits("many 1;climbed 1 3;stalled 1 4;", 0, 1);
        fits("many 1;climbed 1 4;stalled 1 4;", 0, 0);
    }

    private static void strangersBearNoughtToNine() {
        CHECK.by("STRANGERS .. each of whom bears 0 to 9 OUNCES; in how many ways");
        fits("many 1;", 0, 10);
        fits("many 2;", 0, 100);
        fits("many 3;", 0, 1000);
        fits("many 4;", 0, 10000);
        fits("", 0, 100);
    }

    private static void leastAndMost() {
        CHECK.by("LEAST, MOST of a STRANGER in these");
        GriefTram x = Check.with(Check.SIGHT, "many 4;climbed 1 9;stalled 2 1;climbed 4 3;stalled 4 6;");
        CHECK.stretch("least", what -> x.fits(0, what), 10, 19, -2, 9, 0, 3, 0);
        CHECK.stretch("most", what -> x.fits(0, what), 20, 29, -2, 9, 0, 5, 9);
        GriefTram sum = Check.with(Check.SIGHT, "climbed 3 16;stalled 1 9;");
        CHECK.stretch("least", what -> sum.fits(0, what), 10, 19, -2, 7, 8);
        CHECK.stretch("most", what -> sum.fits(0, what), 20, 29, -2, 8, 9);
    }

    private static void askLeastOfTheGreater() {
        CHECK.by("ASK: the set and the hill (40 times the set, and the hill, 1 .. 36) for which the greater number .. is least");
        fits("many 1;", 1, 45);
        fits("many 1;climbed 1 8;", 1, 49);
        fits("many 1;stalled 1 2;", 1, 41);
        fits("many 1;climbed 1 4;stalled 1 7;", 1, 45);
        // the first is known: the second is asked of
        fits("climbed 1 9;", 1, 85);
        // the third alone is open: set 4
        fits("many 3;climbed 3 18;", 1, 165);
        fits("many 4;climbed 7 27;", 1, 325);
        // sums of all four from 34 on: 15 ways
        fits("many 4;climbed 15 36;", 1, 41);
    }

    private static void askOfSeveralTheLeast() {
        CHECK.by("ASK: .. of several the least number");
        // both alike: set 1 ahead of set 2
        fits("", 1, 45);
        // 0 or 1: all hills but 1 tell nothing
        fits("many 1;climbed 1 9;", 1, 41);
        // three of them: 1 against 2 and 2 against 1 are alike
        fits("many 1;stalled 1 3;", 1, 41);
        fits("many 2;climbed 3 18;", 1, 41);
    }

    private static void nothingFits() {
        CHECK.by("ASK (1; NONE: nothing FITS), 10 + s: LEAST, 20 + s: MOST of a STRANGER (NONE: nothing FITS)");
        GriefTram x = Check.with(Check.SIGHT, "many 3;climbed 1 10;");
        CHECK.stretch("fits", what -> x.fits(0, what), 0, 9, -2, 0, NONE);
        CHECK.stretch("fits", what -> x.fits(0, what), 10, 19, -2, NONE, NONE, NONE);
        CHECK.stretch("fits", what -> x.fits(0, what), 20, 29, -2, NONE, NONE, NONE);
    }

    private static void fitsOfNone() {
        CHECK.by("-2: there is none such (of either), or for another what");
        GriefTram x = Check.with(Check.SIGHT, "many 4;");
        CHECK.stretch("fits", what -> x.fits(0, what), -20, -1, -2);
        CHECK.stretch("fits", what -> x.fits(0, what), 0, 9, -2, 10000, 45);
        CHECK.stretch("fits", what -> x.fits(0, what), 10, 19, -2, 0, 0, 0, 0);
        CHECK.stretch("fits", what -> x.fits(0, what), 20, 99, -2, 9, 9, 9, 9);
        CHECK.far("fits", what -> x.fits(0, what), -2);
        for (int sight : new int[] {-2, -1, 1, 2, 3}) {
            CHECK.due("sight " + sight, x.fits(sight, 0), -2);
        }
        CHECK.far("sight", sight -> x.fits(sight, 0), -2);
        Check.tell(x, Check.SIGHT, "many 1;");
        CHECK.due("sight 1", x.fits(1, 0), 10);
        CHECK.due("sight 1 has one stranger", x.fits(1, 11), -2);
    }

    private static void factCounts() {
        CHECK.by("STRANGERS (k NONE, what 0), how many FACTS (k NONE, what 1)");
        GriefTram x = Check.with(Check.SIGHT, "many 4;climbed 8 1;climbed 8 2;stalled 8 3;");
        CHECK.stretch("fact NONE", what -> x.fact(0, NONE, what), -9, -1, -2);
        CHECK.stretch("fact NONE", what -> x.fact(0, NONE, what), 0, 30, -2, 4, 3);
        CHECK.far("fact NONE", what -> x.fact(0, NONE, what), -2);
        CHECK.due("no facts", Check.with(Check.SIGHT, "").fact(0, NONE, 1), 0);
        CHECK.due("ten facts", Check.with(Check.SIGHT, "stalled 1 1;".repeat(10)).fact(0, NONE, 1), 10);
    }

    private static void factOfAnyWhat() {
        CHECK.by("of FACT k, what 0: 1 climbed, 0 stalled, 1: the set, 2: the hill");
        GriefTram x = Check.with(Check.SIGHT, "many 4;climbed 15 36;stalled 1 1;");
        CHECK.stretch("fact 0", what -> x.fact(0, 0, what), -9, -1, -2);
        CHECK.stretch("fact 0", what -> x.fact(0, 0, what), 0, 30, -2, 1, 15, 36);
        CHECK.far("fact 0", what -> x.fact(0, 0, what), -2);
        CHECK.stretch("fact 1", what -> x.fact(0, 1, what), -9, -1, -2);
        CHECK.stretch("fact 1", what -> x.fact(0, 1, what), 0, 30, -2, 0, 1, 1);
        CHECK.far("fact 1", what -> x.fact(0, 1, what), -2);
    }

    private static void factOfNone() {
        CHECK.by("-2: there is none such (of either), or for another what");
        GriefTram x = Check.with(Check.SIGHT, "climbed 1 5;stalled 1 6;");
        CHECK.stretch("hill of fact", k -> x.fact(0, k, 2), -9, -1, -2);
        CHECK.stretch("hill of fact", k -> x.fact(0, k, 2), 0, 30, -2, 5, 6);
        CHECK.far("hill of fact", k -> x.fact(0, k, 2), -2);
        for (int sight : new int[] {-2, -1, 1, 2, 3}) {
            CHECK.due("sight " + sight, x.fact(sight, 0, 0), -2);
            CHECK.due("strangers of sight " + sight, x.fact(sight, NONE, 0), -2);
        }
        CHECK.far("sight", sight -> x.fact(sight, NONE, 0), -2);
        CHECK.due("fact 0 of none", Check.with(Check.SIGHT, "").fact(0, 0, 0), -2);
    }
}
