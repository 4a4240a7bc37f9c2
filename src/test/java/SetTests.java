/** Promises 10 to 14 and 22 to 31: what sets of riders do. */
public final class SetTests {
    private static final Check CHECK = new Check("SetTests");
    private static final int NONE = GriefTram.NONE;

    public static void main(String[] args) {
        comes();
        ups();
        rounds();
        calm();
        couples();
        plea();
        bears();
        spared();
        against();
        sets();
        byTurns();
        news();
        slack();
        orders();
        halves();
        CHECK.end();
    }

    private static void comes() {
        GriefTram x = Check.withLine("hill 10;hill 6;hill 12;seats 1;rider loss 9;rider love 4;rider shame 11;"
            + "rider false 20;wear loss 2;");
        CHECK.due("nobody", x.comes(0, 0, 0), 0);
        CHECK.due("9", x.comes(0, 1, 0), 0);
        CHECK.due("9 from 1", x.comes(0, 1, 1), 2);
        CHECK.due("9 from 2", x.comes(0, 1, 2), 2);
        CHECK.due("17, 13, 9", x.comes(0, 3, 0), 2);
        CHECK.due("22, 18, 13, without seats", x.comes(0, 7, 0), 3);
        CHECK.due("from the last", x.comes(0, 0, 3), 3);
        CHECK.due("false ones pull nothing", x.comes(0, 8, 1), 1);
        CHECK.due("from 4", x.comes(0, 7, 4), NONE);
        CHECK.due("from -1", x.comes(0, 7, -1), NONE);
        CHECK.due("rider 4", x.comes(0, 16, 0), NONE);
        CHECK.due("below 0", x.comes(0, -1, 0), NONE);
        CHECK.due("least", x.comes(0, Integer.MIN_VALUE, 0), NONE);
        CHECK.due("no line", x.comes(1, 0, 0), NONE);
        CHECK.due("hill 0", Check.withLine("hill 0;hill 0;").comes(0, 0, 0), 2);
        CHECK.due("no hills", Check.withLine("").comes(0, 0, 0), 0);
    }

    private static void up(String line, int... want) {
        GriefTram x = Check.withLine(line);
        for (int what = 0; what < want.length; what++) {
            CHECK.due("up " + what + " of " + line, x.up(0, what), want[what]);
        }
        CHECK.due("up 5", x.up(0, 5), NONE);
        CHECK.due("up -1", x.up(0, -1), NONE);
        CHECK.due("up of no line", x.up(1, 0), NONE);
    }

    private static void ups() {
        up("hill 10;rider loss 5;rider loss 5;rider love 5;rider loss 4;", 4, 4, 5, 2, 0);
        up("hill 10;rider loss 20;rider love 5;rider loss 3;rider loss 7;rider false 0;", 1, 2, 5, 3, 0);
        up("hill 10;rider loss 6;rider loss 5;rider loss 3;", 3, 3, 11, 1, 3);
        up("hill 10;rider loss 6;rider loss 2;rider loss 2;seats 2;", NONE, NONE, NONE, 0, 7);
        up("hill 10;rider loss 6;rider loss 2;rider loss 2;seats 3;", 7, 7, 10, 1, 7);
        up("hill 9;rider loss 9;rider false 0;rider loss 9;", 1, 1, 9, 2, 0);
        up("hill 9;rider loss 9;rider false 0;rider loss 8;hill 9;", 5, 5, 17, 1, 5);
        up("", 0, 0, 0, 0, 0);
        up("hill 1;", NONE, NONE, NONE, 0, 0);
        up("hill 0;rider false 3;rider loss 0;", 0, 0, 0, 2, 0);
        up("hill 5;rider loss 5;rider loss 5;rider loss 5;rider loss 5;rider loss 5;rider loss 5;rider loss 5;"
            + "rider loss 5;seats 1;", 1, 1, 5, 8, 0);
    }

    private static void rounds() {
        GriefTram x = Check.withLine("hill 4;hill 4;rider loss 9;rider love 20;rider loss 3;seats 2;wear love 0;");
        CHECK.due("9, 7, 5", x.rounds(0, 1), 3);
        CHECK.due("never worn", x.rounds(0, 2), 100);
        CHECK.due("none", x.rounds(0, 0), 0);
        CHECK.due("stalls at first", x.rounds(0, 4), 0);
        CHECK.due("12, 10, 8, 6, 5, 4, 3", x.rounds(0, 5), 3);
        CHECK.due("no seats", x.rounds(0, 7), NONE);
        CHECK.due("not there", x.rounds(0, 8), NONE);
        CHECK.due("below 0", x.rounds(0, -1), NONE);
        CHECK.due("no line", x.rounds(2, 0), NONE);
        CHECK.due("no hills", Check.withLine("").rounds(0, 0), 100);
        CHECK.due("41 times", Check.withLine("hill 20;rider loss 60;").rounds(0, 1), 41);
        CHECK.due("stalled half way", Check.withLine("hill 1;hill 5;rider loss 6;").rounds(0, 1), 1);
    }

    private static void calm() {
        GriefTram x = Check.withLine("rider loss 9;rider love 1;rider shame 5;rider false 0;seats 3;");
        CHECK.due("k 0", x.calm(0, 7, 0, 0), 9);
        CHECK.due("k 0 ways", x.calm(0, 7, 0, 1), 6);
        CHECK.due("k 0 seat 0", x.calm(0, 7, 0, 10), 0);
        CHECK.due("k 0 seat 2", x.calm(0, 7, 0, 12), 2);
        // 9 in the midst gives to both sides: 2, 7, 6 of (1, 9, 5), 6, 7, 2 of (5, 9, 1)
        CHECK.due("k 1", x.calm(0, 7, 1, 0), 7);
        CHECK.due("k 1 ways", x.calm(0, 7, 1, 1), 2);
        CHECK.due("k 1 seat 0", x.calm(0, 7, 1, 10), 1);
        CHECK.due("k 1 seat 1", x.calm(0, 7, 1, 11), 0);
        CHECK.due("k 1 seat 2", x.calm(0, 7, 1, 12), 2);
        CHECK.due("seat 3", x.calm(0, 7, 1, 13), NONE);
        CHECK.due("k 9", x.calm(0, 3, 9, 0), 5);
        CHECK.due("one", x.calm(0, 8, 9, 1), 1);
        CHECK.due("one of 0", x.calm(0, 8, 9, 0), 0);
        CHECK.due("one's seat", x.calm(0, 8, 9, 10), 3);
        CHECK.due("one's neighbour", x.calm(0, 8, 9, 11), NONE);
        CHECK.due("k 10", x.calm(0, 3, 10, 0), NONE);
        CHECK.due("k -1", x.calm(0, 3, -1, 0), NONE);
        CHECK.due("what 2", x.calm(0, 3, 1, 2), NONE);
        CHECK.due("what -1", x.calm(0, 3, 1, -1), NONE);
        CHECK.due("what 9", x.calm(0, 3, 1, 9), NONE);
        CHECK.due("empty", x.calm(0, 0, 1, 0), NONE);
        CHECK.due("no seats", x.calm(0, 15, 1, 0), NONE);
        CHECK.due("not there", x.calm(0, 16, 1, 0), NONE);
        CHECK.due("no line", x.calm(1, 1, 1, 0), NONE);
        GriefTram six = Check.withLine("seats 6;" + "rider loss 4;".repeat(7));
        CHECK.due("all orders", six.calm(0, 126, 5, 1), 720);
        CHECK.due("first order", six.calm(0, 126, 5, 15), 6);
    }

    private static void couples() {
        GriefTram x = Check.withLine("rider loss 1;rider love 9;rider shame 4;rider false 6;rider loss 2;seats 1;");
        CHECK.due("1 and 9, 4 and 6", x.couples(0, 15, false), 5);
        CHECK.due("one way", x.couples(0, 15, true), 1);
        CHECK.due("upwards", x.couples(0, 18, false), 6);
        CHECK.due("odd", x.couples(0, 7, false), NONE);
        CHECK.due("one", x.couples(0, 1, true), NONE);
        CHECK.due("none", x.couples(0, 0, false), NONE);
        CHECK.due("not there", x.couples(0, 33, false), NONE);
        CHECK.due("not there", x.couples(0, 33, true), NONE);
        CHECK.due("far from there", x.couples(0, 1 | 1 << 20, true), NONE);
        CHECK.due("below 0", x.couples(0, -2, false), NONE);
        CHECK.due("no line", x.couples(1, 3, false), NONE);
        GriefTram eight = Check.withLine("rider loss 3;".repeat(8));
        CHECK.due("like ones", eight.couples(0, 255, false), 3);
        CHECK.due("all ways", eight.couples(0, 255, true), 105);
        GriefTram four = Check.withLine("rider loss 0;rider loss 1;rider loss 2;rider loss 3;");
        CHECK.due("0 3, 1 2", four.couples(0, 15, false), 2);
        CHECK.due("0 3, 1 2 or 0 2, 1 3", four.couples(0, 15, true), 2);
    }

    private static void plea() {
        GriefTram x = Check.withLine("hill 10;hill 10;rider loss 6;rider love 2;rider false 60;seats 2;hill 0;");
        CHECK.due("loss needs 5", x.plea(0, 1), 5);
        CHECK.due("love: 2 * (n + 1)", x.plea(0, 2), 4);
        CHECK.due("both: n + 5 + 2 * (n + 1)", x.plea(0, 3), 1);
        CHECK.due("false", x.plea(0, 4), NONE);
        CHECK.due("empty", x.plea(0, 0), NONE);
        CHECK.due("no seats", x.plea(0, 7), NONE);
        CHECK.due("not there", x.plea(0, 8), NONE);
        CHECK.due("no line", x.plea(1, 1), NONE);
        CHECK.due("0", Check.withLine("hill 6;rider loss 6;").plea(0, 1), 0);
        CHECK.due("empty, no hills", Check.withLine("").plea(0, 0), 0);
        CHECK.due("99", Check.withLine("hill 99;rider loss 0;").plea(0, 1), 99);
        CHECK.due("99 at most", Check.withLine("hill 99;hill 99;rider loss 50;").plea(0, 1), NONE);
        CHECK.due("shame 98", Check.withLine("hill 49;rider shame 0;").plea(0, 1), 98);
    }

    private static void bears() {
        GriefTram x = Check.withLine("hill 10;hill 6;hill 12;rider loss 9;rider love 4;rider shame 3;wear shame 2;"
            + "wear loss 2;seats 1;");
        CHECK.due("stalled at once", x.bears(0, 1, 0), 9);
        CHECK.due("two climbed", x.bears(0, 3, 0), 5);
        CHECK.due("two climbed", x.bears(0, 3, 1), 2);
        CHECK.due("shame, 18, 12, 9", x.bears(0, 7, 2), 0);
        CHECK.due("last", x.bears(0, 7, NONE), 2);
        CHECK.due("last of two", x.bears(0, 3, NONE), 1);
        CHECK.due("last of none", x.bears(0, 0, NONE), NONE);
        CHECK.due("not in the set", x.bears(0, 3, 2), -2);
        CHECK.due("rider 3", x.bears(0, 3, 3), -2);
        CHECK.due("rider 32", x.bears(0, 3, 32), -2);
        CHECK.due("rider -2", x.bears(0, 3, -2), -2);
        CHECK.due("not there", x.bears(0, 8, 0), -2);
        CHECK.due("not there", x.bears(0, 9, NONE), -2);
        CHECK.due("below 0", x.bears(0, -1, NONE), -2);
        CHECK.due("no line", x.bears(1, 1, 0), -2);
        CHECK.due("the least number", Check.withLine("rider loss 4;rider loss 3;rider love 3;").bears(0, 7, NONE), 1);
    }

    private static void spared() {
        GriefTram x = Check.withLine("hill 10;rider loss 6;rider loss 5;rider loss 4;rider false 9;rider loss 1;seats 3;");
        CHECK.due("of 6, 5, 4", x.spared(0, 7), 2 | 4);
        CHECK.due("of 6, 5", x.spared(0, 3), 0);
        CHECK.due("of 6, 5, false", x.spared(0, 11), 8);
        CHECK.due("does not get up", x.spared(0, 9), NONE);
        CHECK.due("no seats", x.spared(0, 15), NONE);
        CHECK.due("not there", x.spared(0, 35), NONE);
        CHECK.due("no line", x.spared(1, 3), NONE);
        CHECK.due("empty", Check.withLine("").spared(0, 0), 0);
    }

    private static void against() {
        GriefTram x = Check.withLine("hill 10;hill 0;hill 17;hill 99;rider loss 6;rider loss 5;rider shame 13;rider false 60;"
            + "rider love 3;seats 3;");
        CHECK.due("6, 5", x.against(0, 0), 3);
        CHECK.due("0", x.against(0, 1), 0);
        CHECK.due("6, 5, 6", x.against(0, 2), 7);
        CHECK.due("99", x.against(0, 3), NONE);
        CHECK.due("hill 4", x.against(0, 4), NONE);
        CHECK.due("hill -1", x.against(0, -1), NONE);
        CHECK.due("no line", x.against(1, 0), NONE);
        CHECK.due("no seats", Check.withLine("hill 10;rider loss 5;rider loss 5;seats 1;").against(0, 0), NONE);
    }

    private static void sets() {
        GriefTram x = Check.withLine("hill 5;hill 5;rider loss 5;rider loss 3;rider loss 4;seats 2;");
        // 0, 3, 4: at hill 0; 5: at hill 1; 3 and 4, 5 and 3, 5 and 4 get up
        CHECK.due("many", x.sets(0, 0), 3);
        CHECK.due("worst", x.sets(0, 1), 0);
        CHECK.due("how many", x.sets(0, 2), 3);
        CHECK.due("what 3", x.sets(0, 3), -2);
        CHECK.due("what -1", x.sets(0, -1), -2);
        CHECK.due("no line", x.sets(1, 0), -2);
        GriefTram none = Check.withLine("hill 0;rider loss 1;rider loss 1;seats 1;");
        CHECK.due("many of none stalled", none.sets(0, 0), 3);
        CHECK.due("worst of none", none.sets(0, 1), NONE);
        CHECK.due("how many of none", none.sets(0, 2), NONE);
        GriefTram further = Check.withLine("hill 0;hill 9;rider loss 1;");
        CHECK.due("worst further", further.sets(0, 1), 1);
        CHECK.due("all of them", further.sets(0, 2), 2);
        GriefTram even = Check.withLine("hill 1;hill 9;rider loss 1;");
        CHECK.due("of several the first", even.sets(0, 1), 0);
        CHECK.due("one each", even.sets(0, 2), 1);
    }

    private static void byTurns() {
        GriefTram x = Check.withLine("hill 4;hill 4;rider loss 9;rider love 20;rider loss 6;rider loss 1;seats 2;wear love 0;");
        // 9: 3 times, 6: 1 time
        CHECK.due("9 and 6", x.byTurns(0, 1, 4), 3);
        CHECK.due("6 and 9", x.byTurns(0, 4, 1), 2);
        CHECK.due("9 and love", x.byTurns(0, 1, 2), 6);
        CHECK.due("love and 9", x.byTurns(0, 2, 1), 7);
        CHECK.due("nobody first", x.byTurns(0, 0, 1), 0);
        CHECK.due("nobody second", x.byTurns(0, 1, 0), 1);
        CHECK.due("one in both", x.byTurns(0, 3, 1), NONE);
        CHECK.due("no seats", x.byTurns(0, 2, 13), NONE);
        CHECK.due("no seats first", x.byTurns(0, 13, 2), NONE);
        CHECK.due("not there", x.byTurns(0, 1, 16), NONE);
        CHECK.due("not there first", x.byTurns(0, 16, 1), NONE);
        CHECK.due("no line", x.byTurns(1, 1, 2), NONE);
        CHECK.due("100", Check.withLine("hill 3;rider loss 9;rider loss 8;wear loss 0;").byTurns(0, 1, 2), 100);
        CHECK.due("nobody, no hills", Check.withLine("").byTurns(0, 0, 0), 100);
    }

    private static void news() {
        GriefTram x = Check.withLine("hill 5;hill 5;rider loss 9;rider love 5;rider false 9;rider loss 1;seats 2;");
        CHECK.due("9: 8 is enough yet 3 less is", x.news(0, 1), 4);
        CHECK.due("love: 4 twice", x.news(0, 2), 2);
        CHECK.due("both: 5 and 2, then 4 and 0", x.news(0, 3), 4);
        CHECK.due("does not get up", x.news(0, 4), NONE);
        CHECK.due("no seats", x.news(0, 7), NONE);
        CHECK.due("not there", x.news(0, 16), NONE);
        CHECK.due("no line", x.news(1, 1), NONE);
        CHECK.due("by none", Check.withLine("hill 0;rider loss 1;").news(0, 1), NONE);
        CHECK.due("no hills", Check.withLine("").news(0, 0), NONE);
        CHECK.due("60", Check.withLine("hill 1;rider loss 60;").news(0, 1), 60);
    }

    private static void slack() {
        GriefTram x = Check.withLine("hill 5;hill 7;hill 6;hill 3;rider loss 9;rider love 5;rider loss 1;seats 2;");
        CHECK.due("9, 8, 7, 6", x.slack(0, 1, false), 1);
        CHECK.due("at 1, not at 2", x.slack(0, 1, true), 1);
        CHECK.due("19, 16, 13, 10", x.slack(0, 3, false), 7);
        CHECK.due("at 2", x.slack(0, 3, true), 2);
        CHECK.due("10, 8, 6, 4", x.slack(0, 2, false), 0);
        CHECK.due("at 2", x.slack(0, 2, true), 2);
        CHECK.due("does not get up", x.slack(0, 4, false), NONE);
        CHECK.due("does not get up", x.slack(0, 4, true), NONE);
        CHECK.due("no seats", x.slack(0, 7, false), NONE);
        CHECK.due("not there", x.slack(0, 8, false), NONE);
        CHECK.due("no line", x.slack(1, 1, false), NONE);
        GriefTram none = Check.withLine("rider loss 3;");
        CHECK.due("no hills", none.slack(0, 1, false), NONE);
        CHECK.due("no hills", none.slack(0, 1, true), NONE);
        CHECK.due("0", Check.withLine("hill 3;rider loss 3;").slack(0, 1, false), 0);
    }

    private static void orders() {
        GriefTram x = Check.withLine("hill 5;hill 4;hill 3;rider loss 5;rider loss 7;rider loss 4;seats 2;");
        CHECK.due("5, 4, 3", x.orders(0, 1), 1);
        CHECK.due("7, 6, 5", x.orders(0, 2), 6);
        CHECK.due("4, 3, 2", x.orders(0, 4), 0);
        CHECK.due("empty", x.orders(0, 0), 0);
        CHECK.due("no seats", x.orders(0, 7), NONE);
        CHECK.due("not there", x.orders(0, 8), NONE);
        CHECK.due("no line", x.orders(1, 1), NONE);
        CHECK.due("no hills", Check.withLine("").orders(0, 0), 1);
        CHECK.due("8!", Check.withLine("hill 0;".repeat(8)).orders(0, 0), 40320);
        CHECK.due("6, 5, 4 of 5, 4, 3", Check.withLine("hill 5;hill 4;hill 3;rider loss 6;").orders(0, 1), 4);
        CHECK.due("like ones", Check.withLine("hill 3;hill 3;rider loss 4;").orders(0, 1), 2);
    }

    private static void halves() {
        GriefTram x = Check.withLine("hill 5;rider loss 9;rider loss 6;rider false 4;rider loss 5;");
        // 9 5 | 6 4 and 9 4 | 6 5, 9 | 15, 9 6 | 9, 9 6 4 | 5, 9 4 5 | 6
        CHECK.due("difference", x.halves(0, false), 2);
        CHECK.due("tram of rider 0", x.halves(0, true), 5);
        CHECK.due("no line", x.halves(1, false), NONE);
        GriefTram ties = Check.withLine("hill 1;rider loss 2;rider loss 2;rider loss 2;rider loss 2;");
        CHECK.due("even", ties.halves(0, false), 0);
        CHECK.due("of several the least", ties.halves(0, true), 3);
        GriefTram few = Check.withLine("hill 1;rider loss 2;");
        CHECK.due("one rider", few.halves(0, false), NONE);
        CHECK.due("one rider", few.halves(0, true), NONE);
        CHECK.due("none", Check.withLine("").halves(0, true), NONE);
        CHECK.due("two, no hills", Check.withLine("rider loss 2;rider loss 9;").halves(0, false), 7);
        CHECK.due("no seats", Check.withLine("seats 1;rider loss 2;rider loss 9;rider loss 1;").halves(0, true), NONE);
        CHECK.due("one can't", Check.withLine("hill 3;rider loss 2;rider loss 9;").halves(0, true), NONE);
    }
}
