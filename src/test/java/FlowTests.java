/** Promises 15 to 18: flows and when trams leave, sights and what fits them. */
public final class FlowTests {
    private static final Check CHECK = new Check("FlowTests");
    private static final int NONE = GriefTram.NONE;

    public static void main(String[] args) {
        flows();
        leaves();
        facts();
        fits();
        CHECK.end();
    }

    private static void flow(String text, int... want) {
        GriefTram x = Check.with(Check.FLOW, text);
        for (int what = 0; what < want.length; what++) {
            CHECK.due("flow " + what + " of " + text, x.flow(0, what), want[what]);
        }
        CHECK.due("flow 6", x.flow(0, 6), NONE);
        CHECK.due("flow 9", x.flow(0, 9), NONE);
        CHECK.due("flow -1", x.flow(0, -1), NONE);
        CHECK.due("flow 34", x.flow(0, 34), NONE);
        CHECK.due("flow greatest", x.flow(0, Integer.MAX_VALUE), NONE);
        CHECK.due("flow of none", x.flow(1, 0), NONE);
        CHECK.due("flow of -1", x.flow(-1, 0), NONE);
    }

    private static void flows() {
        flow("", 10, 0, NONE, 24, 0, 0);
        // need, rush, steady, lull, day, half
        flow("need 10;come 3 6;come 5 5;come 9 12;come 20 4;", 10, 9, 15, 10, 27, 9);
        flow("need 1;come 12 1;", 1, 12, 13, 12, 1, 12);
        flow("need 7;come 0 4;come 23 4;", 7, 0, 24, 22, 8, 0);
        flow("need 9;come 0 4;come 23 4;", 9, 0, NONE, 22, 8, 0);
        flow("come 7 3;come 8 3;come 9 1;", 10, 7, NONE, 14, 7, 8);
        StringBuilder all = new StringBuilder("need 6;");
        for (int h = 0; h < 24; h++) {
            all.append("come ").append(h).append(" 2;");
        }
        flow(all.toString(), 6, 0, 3, 0, 48, 11);
        flow(all + "need 2;", 2, 0, 1, 0, 48, 11);
        GriefTram x = Check.with(Check.FLOW, "come 0 99;come 23 98;");
        CHECK.due("hour 0", x.flow(0, 10), 99);
        CHECK.due("hour 1", x.flow(0, 11), 0);
        CHECK.due("hour 23", x.flow(0, 33), 98);
    }

    private static void leaving(String text, int most, int wait, int... hours) {
        GriefTram x = Check.with(Check.FLOW, text);
        CHECK.due("most of " + text, x.leaves(0, 0), most);
        CHECK.due("wait of " + text, x.leaves(0, 1), wait);
        CHECK.due("trams of " + text, hours.length, most);
        for (int k = 0; k < hours.length; k++) {
            CHECK.due("hour " + k + " of " + text, x.leaves(0, 10 + k), hours[k]);
        }
        CHECK.due("no further hour of " + text, x.leaves(0, 10 + hours.length), NONE);
        CHECK.due("leaves 2", x.leaves(0, 2), NONE);
        CHECK.due("leaves 9", x.leaves(0, 9), NONE);
        CHECK.due("leaves -1", x.leaves(0, -1), NONE);
        CHECK.due("leaves 35", x.leaves(0, 35), NONE);
        CHECK.due("leaves greatest", x.leaves(0, Integer.MAX_VALUE), NONE);
        CHECK.due("leaves of none", x.leaves(1, 0), NONE);
    }

    private static void leaves() {
        leaving("", 0, 0);
        leaving("need 9;come 4 8;", 0, 160);
        // 6 wait 2 hours, 4 wait 4 hours
        leaving("need 10;come 3 6;come 5 5;come 9 12;come 20 4;", 2, 28, 5, 9);
        // 5 left at 9 wait 15 hours, unless the one tram leaves as late as that
        leaving("need 10;come 3 6;come 5 5;come 9 5;", 1, 6 * 6 + 5 * 4, 9);
        leaving("need 10;come 3 6;come 5 5;come 22 5;", 1, 12 + 10, 5);
        // none waits by 1, 2 nor by 2 alone: the first row of hours
        leaving("need 5;come 2 5;come 22 0;", 1, 0, 2);
        leaving("need 6;come 0 4;come 1 4;come 2 4;", 1, 4 * 2 + 4, 2);
        // the one left over is better off with the first tram than with none
        leaving("need 4;come 0 2;come 1 2;come 2 2;come 3 4;", 2, 2 + 2, 1, 3);
        StringBuilder all = new StringBuilder("need 1;");
        int[] hours = new int[24];
        for (int h = 0; h < 24; h++) {
            all.append("come ").append(h).append(" 1;");
            hours[h] = h;
        }
        leaving(all.toString(), 24, 0, hours);
    }

    private static void facts() {
        GriefTram x = Check.with(Check.SIGHT, "many 3;climbed 5 36;stalled 7 1;");
        CHECK.due("strangers", x.fact(0, NONE, 0), 3);
        CHECK.due("facts", x.fact(0, NONE, 1), 2);
        CHECK.due("NONE 2", x.fact(0, NONE, 2), -2);
        CHECK.due("climbed", x.fact(0, 0, 0), 1);
        CHECK.due("set", x.fact(0, 0, 1), 5);
        CHECK.due("hill", x.fact(0, 0, 2), 36);
        CHECK.due("stalled", x.fact(0, 1, 0), 0);
        CHECK.due("set", x.fact(0, 1, 1), 7);
        CHECK.due("hill", x.fact(0, 1, 2), 1);
        CHECK.due("what 3", x.fact(0, 1, 3), -2);
        CHECK.due("what -1", x.fact(0, 1, -1), -2);
        CHECK.due("fact 2", x.fact(0, 2, 0), -2);
        CHECK.due("fact -2", x.fact(0, -2, 0), -2);
        CHECK.due("sight 1", x.fact(1, 0, 0), -2);
        CHECK.due("sight -1", x.fact(-1, NONE, 0), -2);
        CHECK.due("two at first", Check.with(Check.SIGHT, "").fact(0, NONE, 0), 2);
    }

    private static void fits() {
        GriefTram x = Check.with(Check.SIGHT, "");
        CHECK.due("all of two", x.fits(0, 0), 100);
        CHECK.due("half of the first", x.fits(0, 1), 45);
        CHECK.due("least", x.fits(0, 10), 0);
        CHECK.due("most", x.fits(0, 21), 9);
        CHECK.due("stranger 2", x.fits(0, 12), -2);
        CHECK.due("stranger 2", x.fits(0, 22), -2);
        CHECK.due("what 2", x.fits(0, 2), -2);
        CHECK.due("what 9", x.fits(0, 9), -2);
        CHECK.due("what -1", x.fits(0, -1), -2);
        CHECK.due("sight 1", x.fits(1, 0), -2);
        GriefTram y = Check.with(Check.SIGHT, "climbed 1 5;stalled 2 3;climbed 3 8;");
        // the first 5 .. 9, the second 0 .. 2, 8 together: 6 2, 7 1, 7 2, 8 and 9 with any
        CHECK.due("fits", y.fits(0, 0), 9);
        CHECK.due("least 0", y.fits(0, 10), 6);
        CHECK.due("most 0", y.fits(0, 20), 9);
        CHECK.due("least 1", y.fits(0, 11), 0);
        CHECK.due("most 1", y.fits(0, 21), 2);
        // 8 or more: 6 against 3; 9 or more: 3 against 6; the second 1 or more: 7; 2 or more: 4 against 5
        CHECK.due("ask", y.fits(0, 1), 82);
        GriefTram none = Check.with(Check.SIGHT, "many 1;climbed 1 10;");
        CHECK.due("nothing fits", none.fits(0, 0), 0);
        CHECK.due("ask none", none.fits(0, 1), NONE);
        CHECK.due("least of none", none.fits(0, 10), NONE);
        CHECK.due("most of none", none.fits(0, 20), NONE);
        CHECK.due("still no stranger", none.fits(0, 11), -2);
        GriefTram one = Check.with(Check.SIGHT, "many 1;climbed 1 9;");
        CHECK.due("one fits", one.fits(0, 0), 1);
        CHECK.due("any question", one.fits(0, 1), 41);
        CHECK.due("all of four", Check.with(Check.SIGHT, "many 4;").fits(0, 0), 10000);
        CHECK.due("36", Check.with(Check.SIGHT, "many 4;climbed 15 36;").fits(0, 0), 1);
    }
}
