import java.util.Random;

/** Any calls with any numbers in any state: none may throw, and asking changes nothing. */
public final class WildTests {
    private static final Check CHECK = new Check("WildTests");
    private static final Random RANDOM = new Random(34);
    private static final int[] EDGES = {Integer.MIN_VALUE, Integer.MIN_VALUE + 1, -100, -3, -2, -1, 0, 1, 2, 3, 4, 5, 6, 7, 8,
        9, 10, 11, 12, 15, 16, 17, 18, 20, 22, 27, 28, 30, 35, 36, 39, 40, 44, 50, 58, 59, 60, 61, 67, 68, 99, 100, 127, 255,
        256, 257, 511, 600, 601, 1 << 30, Integer.MAX_VALUE - 1, Integer.MAX_VALUE};
    private static final String[][] TEXTS = {
        {"", "hill 0;hill 99;hill 3;", "rider loss 9;rider love 60;rider shame 7;rider false 5;hill 9;seats 6;",
            "hill 1;hill 2;hill 3;hill 4;hill 5;hill 6;hill 7;hill 8;" + "rider love 60;".repeat(8) + "seats 6;wear love 0;",
            "seats 1;" + "rider shame 60;".repeat(8) + "hill 0;".repeat(8)},
        {"", "go;share;back;go;", "board 7 5;", "board 0 0;board 1 1;board 2 2;go;go;share;tell 9;joke 9;back;off 1;move 0 1;",
            "share;".repeat(40)},
        {"", "need 99;", "need 1;come 0 99;come 23 99;", "come 5 10;come 6 20;"},
        {"", "many 4;", "many 1;climbed 1 36;", "many 4;climbed 15 20;stalled 3 9;"}};

    public static void main(String[] args) {
        for (int run = 0; run < 400; run++) {
            wildRun();
        }
        for (int run = 0; run < 40; run++) {
            askingChangesNothing();
        }
        CHECK.end();
    }

    private static int any() {
        int way = RANDOM.nextInt(10);
        return way == 0 ? RANDOM.nextInt() : way < 4 ? EDGES[RANDOM.nextInt(EDGES.length)] : RANDOM.nextInt(6) - 1;
    }

    private static void tellAny(GriefTram x) {
        int sort = RANDOM.nextInt(4);
        String[] texts = TEXTS[sort];
        Check.tellAt(x, sort, texts[RANDOM.nextInt(texts.length)], RANDOM.nextInt(3) - 1);
    }

    private static void wildRun() {
        GriefTram x = new GriefTram();
        for (int i = 0; i < 500; i++) {
            if (RANDOM.nextInt(12) == 0) {
                tellAny(x);
            }
            int call = RANDOM.nextInt(33);
            int[] n = {any(), any(), any(), any(), any()};
            long got;
            try {
                got = call(x, call, n);
            } catch (RuntimeException thrown) {
                CHECK.due("call " + call + " threw " + thrown, 1, 0);
                continue;
            }
            CHECK.due("call " + call + " answers no less than -2", got >= -2, true);
        }
    }

    private static void askingChangesNothing() {
        GriefTram x = new GriefTram();
        for (int i = 0; i < 12; i++) {
            tellAny(x);
        }
        for (int i = 0; i < 60; i++) {
            int call = 5 + RANDOM.nextInt(28);
            int[] n = {any(), any(), any(), any(), any()};
            long before = call(x, call, n);
            for (int k = 0; k < 6; k++) {
                call(x, 5 + RANDOM.nextInt(28), new int[] {any(), any(), any(), any(), any()});
            }
            CHECK.due("call " + call + " once more", call(x, call, n), before);
        }
    }

    /** Each question and deed by a number, so that any of them can be drawn. */
    static long call(GriefTram x, int call, int[] n) {
        boolean yes = n[4] % 2 == 0;
        switch (call) {
            case 0: return x.feed(n[0], n[1], n[2], n[3], n[4]);
            case 1: return x.end(n[0]);
            case 2: return x.text(n[0], n[1]);
            case 3: return x.image(n[0]) ? 1 : 0;
            case 4: return x.again(n[0]) ? 1 : 0;
            case 5: return x.fault(n[0]);
            case 6: return x.line(n[0], n[1]);
            case 7: return x.deed(n[0], n[1], n[2]);
            case 8: return x.stop(n[0], n[1]);
            case 9: return x.state(n[0], n[1], n[2], n[3]);
            case 10: return x.comes(n[0], n[1], n[2]);
            case 11: return x.up(n[0], n[1]);
            case 12: return x.rounds(n[0], n[1]);
            case 13: return x.calm(n[0], n[1], n[2], n[3]);
            case 14: return x.couples(n[0], n[1], yes);
            case 15: return x.flow(n[0], n[1]);
            case 16: return x.leaves(n[0], n[1]);
            case 17: return x.fact(n[0], n[1], n[2]);
            case 18: return x.fits(n[0], n[1]);
            case 19: return x.fare(n[0], n[1], n[2], n[3]);
            case 20: return x.route(n[0], n[1]);
            case 21: return x.drawn(n[0], n[1], n[2], n[3]);
            case 22: return x.plea(n[0], n[1]);
            case 23: return x.bears(n[0], n[1], n[2]);
            case 24: return x.spared(n[0], n[1]);
            case 25: return x.against(n[0], n[1]);
            case 26: return x.sets(n[0], n[1]);
            case 27: return x.byTurns(n[0], n[1], n[2]);
            case 28: return x.news(n[0], n[1]);
            case 29: return x.slack(n[0], n[1], yes);
            case 30: return x.orders(n[0], n[1]);
            case 31: return x.halves(n[0], yes);
            default: return x.count(n[0]);
        }
    }
}
