/** The edges that promises 1 to 7 and 32 to 34 name: the tape, texts, what is told, images. */
public final class CallEdgeTests {
    private static final Check CHECK = new Check("CallEdgeTests");
    private static final int NONE = GriefTram.NONE;
    private static final int LEAST = Integer.MIN_VALUE;
    private static final int GREATEST = Integer.MAX_VALUE;

    public static void main(String[] args) {
        nothingAtFirst();
        noImagesAtFirst();
        feedTellsHowMany();
        feedRefusesMoreThanSixHundred();
        feedPutsTheHighestByteFirst();
        endCutsTheTape();
        endLeavesNothingBehind();
        endRefuses();
        textAnswersItsNumber();
        textInThePlaceOfOne();
        textWithAFault();
        textRefuses();
        textTakesTheTape();
        faultOfTheLatestText();
        faultForAnotherWhat();
        lineOfAnyWhat();
        lineOfFewAndMany();
        lineThatIsNotThere();
        deedCounts();
        deedOfAnyWhat();
        deedThatIsNotThere();
        countOfASort();
        imageOfAnotherNumber();
        imageIsAsItIsNow();
        imageHasTapeAndFault();
        againOfNone();
        againLeavesImages();
        againTakesBackHowMany();
        CHECK.end();
    }

    // ---- promise 1

    private static void nothingAtFirst() {
        CHECK.by("No LINES, RIDES, FLOWS, SIGHTS");
        GriefTram x = new GriefTram();
        CHECK.due("an empty tape", x.end(1), NONE);
        CHECK.due("no fault", x.fault(0), 0);
        CHECK.due("no place", x.fault(1), NONE);
        for (int sort = 0; sort < 4; sort++) {
            CHECK.due("count " + sort, x.count(sort), 0);
            CHECK.due("in the place of 0 of " + sort, x.text(sort, 0), -2);
        }
        long[] none = {x.line(0, 0), x.stop(0, 0), x.comes(0, 0, 0), x.up(0, 3), x.rounds(0, 0), x.calm(0, 1, 0, 0),
            x.couples(0, 3, false), x.flow(0, 0), x.leaves(0, 0), x.fare(0, 0, 1, 0), x.route(0, 0), x.plea(0, 0),
            x.spared(0, 0), x.against(0, 0), x.byTurns(0, 0, 0), x.news(0, 0), x.slack(0, 0, false), x.orders(0, 0),
            x.halves(0, false)};
        for (int i = 0; i < none.length; i++) {
            CHECK.due("NONE of a new object, " + i, none[i], NONE);
        }
        int[] refused = {x.deed(0, NONE, 0), x.state(0, 0, 0, 0), x.fact(0, NONE, 0), x.fits(0, 0), x.drawn(0, 1, 0, 0),
            x.bears(0, 0, NONE), x.sets(0, 0)};
        for (int i = 0; i < refused.length; i++) {
            CHECK.due("-2 of a new object, " + i, refused[i], -2);
        }
    }

    private static void noImagesAtFirst() {
        CHECK.by("no images");
        GriefTram x = new GriefTram();
        for (int k = -1; k <= 3; k++) {
            CHECK.due("again " + k, x.again(k), false);
        }
    }

    // ---- promises 2, 3

    private static void feedTellsHowMany() {
        CHECK.by("twenty bytes come behind it ..: how many it has");
        GriefTram x = new GriefTram();
        CHECK.due("first", x.feed(0, 0, 0, 0, 0), 20);
        CHECK.due("second", x.feed(-1, -1, -1, -1, -1), 40);
        x.end(7);
        CHECK.due("behind seven", x.feed(LEAST, GREATEST, 0, 0, 0), 27);
        x.end(0);
        CHECK.due("behind none", x.feed(0, 0, 0, 0, 0), 20);
    }

    private static void feedRefusesMoreThanSixHundred() {
        CHECK.by("NONE, and nothing comes, if there would be more than 600");
        for (int already = 560; already <= 600; already++) {
            GriefTram x = new GriefTram();
            for (int i = 0; i < 30; i++) {
                x.feed(0x20202020, 0x20202020, 0x20202020, 0x20202020, 0x20202020);
            }
            x.end(already);
            boolean may = already <= 580;
            CHECK.due("feed behind " + already, x.feed(0, 0, 0, 0, 0), may ? already + 20 : NONE);
            CHECK.due("no more behind " + already, x.end(already + 1), may ? already + 1 : NONE);
            CHECK.due("no less behind " + already, x.end(already), already);
            CHECK.due("the bytes behind " + already, x.text(0, NONE), 0);
        }
    }

    private static void feedPutsTheHighestByteFirst() {
        CHECK.by("of each number the highest first");
        int[] numbers = {0x68696C6C, 0x20313B68, 0x696C6C32, 0x3B68696C, 0x6C20333B};
        GriefTram x = new GriefTram();
        x.feed(numbers[0], numbers[1], numbers[2], numbers[3], numbers[4]);
        CHECK.due("hill 1;hill2;hill 3;", x.text(0, NONE), 0);
        CHECK.stretch("line 0", what -> x.line(0, what), 10, 19, NONE, 1, 2, 3);
        // a stray byte of 128 and more in each of the four places of each of the five numbers
        for (int at = 0; at < 20; at++) {
            int[] fed = {0x20202020, 0x20202020, 0x20202020, 0x20202020, 0x20202020};
            int shift = 24 - 8 * (at % 4);
            fed[at / 4] = fed[at / 4] & ~(255 << shift) | 0xE9 << shift;
            GriefTram y = new GriefTram();
            y.feed(fed[0], fed[1], fed[2], fed[3], fed[4]);
            CHECK.due("stray byte " + at, y.text(0, NONE), NONE);
            CHECK.due("place of byte " + at, y.fault(1), at);
        }
    }

    private static void endCutsTheTape() {
        CHECK.by("The tape has its first n bytes alone: n");
        for (int n = 0; n <= 20; n++) {
            GriefTram x = new GriefTram();
            x.feed(0, 0, 0, 0, 0);
            CHECK.due("end " + n, x.end(n), n);
            CHECK.due("end " + n + " again", x.end(n), n);
            CHECK.due("no byte behind " + n, x.end(n + 1), NONE);
            CHECK.due("feed behind " + n, x.feed(0, 0, 0, 0, 0), n + 20);
        }
        GriefTram y = new GriefTram();
        y.feed(0x68696C6C, 0x20353B21, 0x21212121, 0x21212121, 0x21212121);
        y.end(7);
        y.feed(0x68696C6C, 0x20363B20, 0x20202020, 0x20202020, 0x20202020);
        CHECK.due("the first seven, then further ones", y.text(0, NONE), 0);
        CHECK.due("the first", y.line(0, 10), 5);
        CHECK.due("the further one", y.line(0, 11), 6);
    }

    private static void endLeavesNothingBehind() {
        CHECK.by("its first n bytes alone");
        String[] texts = {"hill 5;seats 6;", "hill 55;hill55", "rider loss 60; ", "   hill   5   ;"};
        for (String text : texts) {
            for (int n = 0; n <= text.length(); n++) {
                GriefTram fresh = new GriefTram();
                int due = Check.tell(fresh, 0, text.substring(0, n));
                for (char behind : new char[] {'l', 's', '5', '0', ';', ' ', '\n', '!', '\u00e9'}) {
                    GriefTram x = new GriefTram();
                    Check.tape(x, text.substring(0, n) + String.valueOf(behind).repeat(20));
                    x.end(n);
                    CHECK.due(text + " cut at " + n + " ahead of " + behind, x.text(0, NONE), due);
                    CHECK.due("its fault", x.fault(0), fresh.fault(0));
                    CHECK.due("its place", x.fault(1), fresh.fault(1));
                }
            }
        }
    }

    private static void endRefuses() {
        CHECK.by("NONE if it has not so many, or n is below 0");
        GriefTram x = new GriefTram();
        CHECK.due("an empty tape, 1", x.end(1), NONE);
        CHECK.due("an empty tape, 0", x.end(0), 0);
        CHECK.due("an empty tape, -1", x.end(-1), NONE);
        x.feed(0, 0, 0, 0, 0);
        CHECK.due("21", x.end(21), NONE);
        CHECK.due("-1", x.end(-1), NONE);
        CHECK.far("end", x::end, NONE);
        CHECK.due("a refused end leaves the tape", x.feed(0, 0, 0, 0, 0), 40);
    }

    // ---- promises 4, 5

    private static void textAnswersItsNumber() {
        CHECK.by("as a text of a sort, a further one (at NONE) ..: its number");
        for (int sort = 0; sort < 4; sort++) {
            GriefTram x = new GriefTram();
            CHECK.due("first of " + sort, x.text(sort, NONE), 0);
            CHECK.due("one of " + sort, x.count(sort), 1);
            CHECK.due("second of " + sort, x.text(sort, NONE), 1);
            CHECK.due("two of " + sort, x.count(sort), 2);
        }
    }

    private static void textInThePlaceOfOne() {
        CHECK.by("or in the place of one: its number");
        GriefTram x = Check.withLine("hill 1;");
        Check.tell(x, 0, "hill 2;");
        CHECK.due("in the place of 0", Check.tellAt(x, 0, "hill 3;", 0), 0);
        CHECK.due("line 0", x.line(0, 10), 3);
        CHECK.due("line 1", x.line(1, 10), 2);
        CHECK.due("in the place of 1", Check.tellAt(x, 0, "hill 4;", 1), 1);
        CHECK.due("line 0", x.line(0, 10), 3);
        CHECK.due("line 1", x.line(1, 10), 4);
        CHECK.due("no further one", x.count(0), 2);
        String[][] texts = {{"tell 1;", "tell 2;"}, {"need 1;", "need 2;"}, {"many 1;", "many 2;"}};
        for (int sort = 1; sort < 4; sort++) {
            Check.tell(x, sort, texts[sort - 1][0]);
            Check.tell(x, sort, texts[sort - 1][0]);
            CHECK.due("in the place of 1 of " + sort, Check.tellAt(x, sort, texts[sort - 1][1], 1), 1);
            CHECK.due("no further one of " + sort, x.count(sort), 2);
        }
        CHECK.due("ride 0", x.deed(0, 0, 1), 1);
        CHECK.due("ride 1", x.deed(1, 0, 1), 2);
        CHECK.due("flow 0", x.flow(0, 0), 1);
        CHECK.due("flow 1", x.flow(1, 0), 2);
        CHECK.due("sight 0", x.fact(0, NONE, 0), 1);
        CHECK.due("sight 1", x.fact(1, NONE, 0), 2);
        CHECK.due("fits of 0", x.fits(0, 0), 10);
        CHECK.due("fits of 1", x.fits(1, 0), 100);
        CHECK.due("anew", Check.tellAt(x, 3, "many 3;", 0), 0);
        CHECK.due("fits of 0 anew", x.fits(0, 0), 1000);
    }

    private static void textWithAFault() {
        CHECK.by("NONE: a FAULT");
        String[] good = {"hill 7;", "tell 7;", "need 7;", "many 3;"};
        String[] bad = {"hill 8;seats 0;", "tell 8;tell 0;", "need 8;need 0;", "many 4;many 0;"};
        for (int sort = 0; sort < 4; sort++) {
            GriefTram x = new GriefTram();
            CHECK.due("first with a fault", Check.tell(x, sort, bad[sort]), NONE);
            CHECK.due("none is there", x.count(sort), 0);
            Check.tell(x, sort, good[sort]);
            CHECK.due("further with a fault", Check.tell(x, sort, bad[sort]), NONE);
            CHECK.due("none further", x.count(sort), 1);
            CHECK.due("in place with a fault", Check.tellAt(x, sort, bad[sort], 0), NONE);
            CHECK.due("still one", x.count(sort), 1);
            int[] told = {x.line(0, 10), x.deed(0, 0, 1), x.flow(0, 0), x.fact(0, NONE, 0)};
            CHECK.due("as it was", told[sort], sort == 3 ? 3 : 7);
        }
    }

    private static void textRefuses() {
        CHECK.by("-2: there is none such, there are as many as may be, or no such sort (no text is read then, FAULT 0)");
        for (int sort = 0; sort < 4; sort++) {
            for (int many = 0; many <= 2; many++) {
                GriefTram x = new GriefTram();
                for (int i = 0; i < many; i++) {
                    x.text(sort, NONE);
                }
                for (int at = -3; at <= 4; at++) {
                    boolean may = at >= 0 && at < many;
                    if (at != NONE || many == 2) {
                        refused(x, sort, at, may);
                    }
                }
                refused(x, sort, LEAST, false);
                refused(x, sort, GREATEST, false);
                CHECK.due("how many of " + sort, x.count(sort), many);
            }
        }
        GriefTram x = Check.withLine("hill 7;");
        for (int sort : new int[] {-2, -1, 4, 5, LEAST, GREATEST}) {
            refused(x, sort, NONE, false);
            refused(x, sort, 0, false);
        }
        CHECK.due("the line is as it was", x.line(0, 10), 7);
        CHECK.due("one line", x.count(0), 1);
    }

    /** Ahead of it a text with a FAULT, which is no more the latest one then; the tape itself would have one, too. */
    private static void refused(GriefTram x, int sort, int at, boolean may) {
        Check.tellAt(x, 0, "!", x.count(0) == 0 ? NONE : 0);
        Check.tape(x, may ? "" : "zeal");
        CHECK.due("text " + sort + " at " + at, x.text(sort, at), may ? at : -2);
        CHECK.due("fault behind text " + sort + " at " + at, x.fault(0), 0);
        CHECK.due("place behind text " + sort + " at " + at, x.fault(1), NONE);
    }

    private static void textTakesTheTape() {
        CHECK.by("The tape is taken (and is empty then)");
        int[][] calls = {{0, NONE, 1}, {0, 0, 0}, {0, NONE, NONE}, {0, 2, -2}, {0, NONE, -2}, {4, 0, -2}, {-1, NONE, -2}};
        for (int[] call : calls) {
            GriefTram x = Check.withLine("");
            if (call[1] == NONE && call[2] == -2) {
                x.text(0, NONE);
            }
            Check.tape(x, call[2] == NONE ? "!" : " ");
            CHECK.due("text " + call[0] + " " + call[1], x.text(call[0], call[1]), call[2]);
            CHECK.due("an empty tape", x.end(1), NONE);
            CHECK.due("which begins anew", x.feed(0, 0, 0, 0, 0), 20);
        }
    }

    private static void faultOfTheLatestText() {
        CHECK.by("Of the latest text(), what 0: the FAULT, 0 without, 1: its place, NONE without");
        GriefTram x = new GriefTram();
        String[] texts = {"!", "seats 0;", "hill 1;".repeat(9), "", "hill 1;"};
        int[][] due = {{1, 0}, {2, 6}, {3, 56}, {0, NONE}, {0, NONE}};
        for (int i = 0; i < texts.length; i++) {
            Check.tell(x, 0, texts[i]);
            x.feed(0, 0, 0, 0, 0);
            x.end(3);
            x.count(0);
            x.line(0, 0);
            CHECK.due("fault of " + texts[i], x.fault(0), due[i][0]);
            CHECK.due("place of " + texts[i], x.fault(1), due[i][1]);
        }
        Check.tell(x, 3, "climbed 8 1;");
        CHECK.due("fault 4", x.fault(0), 4);
        CHECK.due("its place", x.fault(1), 12);
        Check.tell(x, 2, "");
        CHECK.due("another sort's is the latest", x.fault(0), 0);
        CHECK.due("no place", x.fault(1), NONE);
    }

    private static void faultForAnotherWhat() {
        CHECK.by("NONE for another what");
        GriefTram x = new GriefTram();
        Check.tell(x, 0, "    !");
        CHECK.stretch("fault", x::fault, -20, -1, NONE);
        CHECK.stretch("fault", x::fault, 0, 100, NONE, 1, 4);
        CHECK.far("fault", x::fault, NONE);
    }

    // ---- promises 6, 7

    private static void lineOfAnyWhat() {
        CHECK.by("10 + k: a HILL, 20 + r: KIND, 30 + r: OUNCES of a RIDER, 40 + k: WEAR .. NONE .. for another what");
        GriefTram x = Check.withLine("hill 11;hill 12;seats 3;rider love 5;rider shame 7;rider false 9;wear loss 2;"
            + "wear love 3;wear shame 4;wear false 5;fare 1 21;fare 8 28;");
        CHECK.stretch("line 0", what -> x.line(0, what), -30, -1, NONE);
        CHECK.stretch("line 0", what -> x.line(0, what), 0, 9, NONE, 2, 3, 3);
        CHECK.stretch("line 0", what -> x.line(0, what), 10, 19, NONE, 11, 12);
        CHECK.stretch("line 0", what -> x.line(0, what), 20, 29, NONE, 1, 2, 3);
        CHECK.stretch("line 0", what -> x.line(0, what), 30, 39, NONE, 5, 7, 9);
        CHECK.stretch("line 0", what -> x.line(0, what), 40, 49, NONE, 2, 3, 4, 5);
        CHECK.stretch("line 0", what -> x.line(0, what), 50, 59, NONE, NONE, 21, 2, 3, 4, 5, 6, 7, 28);
        CHECK.stretch("line 0", what -> x.line(0, what), 60, 69, NONE, 10, 3, 0);
        CHECK.stretch("line 0", what -> x.line(0, what), 70, 400, NONE);
        CHECK.far("line 0", what -> x.line(0, what), NONE);
    }

    private static void lineOfFewAndMany() {
        CHECK.by("NONE: there is none such (of any)");
        GriefTram x = Check.withLine("");
        CHECK.stretch("an empty line", what -> x.line(0, what), 0, 9, NONE, 0, 4, 0);
        CHECK.stretch("an empty line", what -> x.line(0, what), 10, 39, NONE);
        CHECK.stretch("an empty line", what -> x.line(0, what), 60, 69, NONE);
        GriefTram y = Check.withLine("hill 9;".repeat(8) + "rider love 6;".repeat(8));
        CHECK.stretch("a full line", what -> y.line(0, what), 10, 19, NONE, 9, 9, 9, 9, 9, 9, 9, 9);
        CHECK.stretch("a full line", what -> y.line(0, what), 20, 29, NONE, 1, 1, 1, 1, 1, 1, 1, 1);
        CHECK.stretch("a full line", what -> y.line(0, what), 30, 39, NONE, 6, 6, 6, 6, 6, 6, 6, 6);
        CHECK.stretch("a full line", what -> y.line(0, what), 60, 69, NONE, 12, 12, 12, 12, 12, 12, 12, 12);
    }

    private static void lineThatIsNotThere() {
        CHECK.by("NONE: there is none such (of any)");
        for (int many = 0; many <= 2; many++) {
            GriefTram x = new GriefTram();
            for (int i = 0; i < many; i++) {
                x.text(0, NONE);
            }
            for (int line = -2; line <= 3; line++) {
                CHECK.due(many + " lines, line " + line, x.line(line, 1), line >= 0 && line < many ? 4 : NONE);
            }
            CHECK.far("line", line -> x.line(line, 1), NONE);
        }
    }

    private static void deedCounts() {
        CHECK.by("How many DEEDS (k NONE, what 0)");
        GriefTram x = Check.with(Check.RIDE, "go;go;go;");
        CHECK.due("how many", x.deed(0, NONE, 0), 3);
        CHECK.stretch("deed NONE", what -> x.deed(0, NONE, what), -9, -1, -2);
        CHECK.stretch("deed NONE", what -> x.deed(0, NONE, what), 0, 20, -2, 3);
        CHECK.far("deed NONE", what -> x.deed(0, NONE, what), -2);
        CHECK.due("of an empty ride", Check.with(Check.RIDE, "").deed(0, NONE, 0), 0);
    }

    private static void deedOfAnyWhat() {
        CHECK.by("0 board, 1 move, 2 off, 3 tell, 4 joke, 5 go, 6 share, 7 back, 1, 2: its numbers (NONE without)");
        GriefTram x = Check.with(Check.RIDE, "board 7 5;move 6 4;off 7;tell 9;joke 8;go;share;back;");
        int[][] due = {{0, 7, 5}, {1, 6, 4}, {2, 7, NONE}, {3, 9, NONE}, {4, 8, NONE}, {5, NONE, NONE}, {6, NONE, NONE},
            {7, NONE, NONE}};
        for (int i = 0; i < due.length; i++) {
            int k = i;
            CHECK.stretch("deed " + k, what -> x.deed(0, k, what), -9, -1, -2);
            CHECK.stretch("deed " + k, what -> x.deed(0, k, what), 0, 20, -2, due[k]);
            CHECK.far("deed " + k, what -> x.deed(0, k, what), -2);
        }
    }

    private static void deedThatIsNotThere() {
        CHECK.by("-2: there is none such (of either), or for another what");
        GriefTram x = Check.with(Check.RIDE, "go;share;");
        CHECK.stretch("deed of k", k -> x.deed(0, k, 0), -9, -2, -2);
        CHECK.stretch("deed of k", k -> x.deed(0, k, 0), 0, 50, -2, 5, 6);
        CHECK.far("deed of k", k -> x.deed(0, k, 0), -2);
        CHECK.due("deed 0 of an empty ride", Check.with(Check.RIDE, "").deed(0, 0, 0), -2);
        for (int ride : new int[] {-1, 1, 2, LEAST, GREATEST}) {
            CHECK.due("ride " + ride, x.deed(ride, 0, 0), -2);
            CHECK.due("how many of ride " + ride, x.deed(ride, NONE, 0), -2);
        }
        Check.tell(x, Check.RIDE, "back;");
        CHECK.due("ride 1", x.deed(1, 0, 0), 7);
        CHECK.due("ride 2", x.deed(2, 0, 0), -2);
    }

    // ---- promises 32 to 34

    private static void countOfASort() {
        CHECK.by("How many there are of a sort. -2 for another one");
        GriefTram x = new GriefTram();
        for (int sort = 0; sort < 4; sort++) {
            for (int i = 0; i <= sort % 3; i++) {
                x.text(sort, NONE);
            }
        }
        CHECK.stretch("count", x::count, -9, -1, -2);
        CHECK.stretch("count", x::count, 0, 20, -2, 1, 2, 2, 1);
        CHECK.far("count", x::count, -2);
    }

    private static void imageOfAnotherNumber() {
        CHECK.by("Image k (0 .. 2) ..: true; false for another k");
        GriefTram x = new GriefTram();
        for (int k = -4; k <= 6; k++) {
            CHECK.due("image " + k, x.image(k), k >= 0 && k <= 2);
        }
        for (int k : Check.FAR) {
            CHECK.due("image " + k, x.image(k), false);
        }
    }

    private static void imageIsAsItIsNow() {
        CHECK.by("all that is told .., as it is now");
        GriefTram x = new GriefTram();
        CHECK.due("an image of nothing", x.image(0), true);
        tellAll(x, NONE, 3);
        isTold(x, 0, 3);
        x.image(1);
        tellAll(x, NONE, 5);
        tellAll(x, 0, 4);
        isTold(x, 1, 5);
        x.image(2);
        tellAll(x, 0, 6);
        tellAll(x, 1, 7);
        isTold(x, 0, 6);
        isTold(x, 1, 7);
        for (int k : new int[] {1, 0, 2, 1, 2, 0, 2}) {
            CHECK.due("again " + k, x.again(k), true);
            for (int sort = 0; sort < 4; sort++) {
                CHECK.due("image " + k + " has so many of " + sort, x.count(sort), k);
            }
            if (k == 1) {
                isTold(x, 0, 3);
            }
            if (k == 2) {
                isTold(x, 0, 4);
                isTold(x, 1, 5);
            }
        }
    }

    /** One of each sort, by which n was told. */
    private static void tellAll(GriefTram x, int at, int n) {
        Check.tellAt(x, 0, "hill " + n + ";seats " + (n % 6 + 1) + ";rider love " + n + ";wear loss " + n + ";fare 3 " + n + ";", at);
        Check.tellAt(x, 1, "board " + n + " " + n % 5 + ";tell " + n + ";", at);
        Check.tellAt(x, 2, "need " + n + ";come " + n + " " + n + ";", at);
        Check.tellAt(x, 3, "many " + (1 + n % 2) + ";climbed 1 " + n + ";stalled 1 " + (n + 2) + ";", at);
    }

    private static void isTold(GriefTram x, int number, int n) {
        int[][] line = {{10, n}, {1, n % 6 + 1}, {21, NONE}, {20, 1}, {30, n}, {40, n}, {53, n}};
        for (int[] row : line) {
            CHECK.due("line " + number + " " + row[0], x.line(number, row[0]), row[1]);
        }
        CHECK.due("deeds of ride " + number, x.deed(number, NONE, 0), 2);
        CHECK.due("rider of ride " + number, x.deed(number, 0, 1), n);
        CHECK.due("seat of ride " + number, x.deed(number, 0, 2), n % 5);
        CHECK.due("deed 1 of ride " + number, x.deed(number, 1, 0), 3);
        CHECK.due("need of flow " + number, x.flow(number, 0), n);
        CHECK.due("what comes of flow " + number, x.flow(number, 10 + n), n);
        CHECK.due("all that comes of flow " + number, x.flow(number, 4), n);
        CHECK.due("strangers of sight " + number, x.fact(number, NONE, 0), 1 + n % 2);
        CHECK.due("facts of sight " + number, x.fact(number, NONE, 1), 2);
        CHECK.due("fact 0 of sight " + number, x.fact(number, 0, 0), 1);
        CHECK.due("fact 1 of sight " + number, x.fact(number, 1, 0), 0);
        CHECK.due("set of sight " + number, x.fact(number, 0, 1), 1);
        CHECK.due("hill of sight " + number, x.fact(number, 0, 2), n);
        CHECK.due("fits of sight " + number, x.fits(number, 0), n % 2 == 0 ? 2 : 20);
        CHECK.due("ask of sight " + number, x.fits(number, 1), 41 + n);
        CHECK.due("least of sight " + number, x.fits(number, 10), n);
        CHECK.due("most of sight " + number, x.fits(number, 20), n + 1);
    }

    private static void imageHasTapeAndFault() {
        CHECK.by("(the tape, the FAULT, too)");
        GriefTram x = new GriefTram();
        Check.tell(x, 0, "  seats 0;");
        Check.tape(x, "hill 8;");
        x.image(0);
        CHECK.due("the tape is left", x.end(7), 7);
        CHECK.due("the text is left", x.text(0, NONE), 0);
        CHECK.due("no fault", x.fault(0), 0);
        Check.tape(x, "seats 2; ");
        x.image(1);
        x.end(0);
        x.feed(0x21212121, 0x21212121, 0x21212121, 0x21212121, 0x21212121);
        x.again(0);
        CHECK.due("the fault of image 0", x.fault(0), 2);
        CHECK.due("its place", x.fault(1), 8);
        CHECK.due("so many bytes", x.end(8), NONE);
        CHECK.due("the tape of image 0", x.text(0, NONE), 0);
        CHECK.due("its hill", x.line(0, 10), 8);
        x.again(1);
        CHECK.due("the fault of image 1", x.fault(0), 0);
        CHECK.due("no place", x.fault(1), NONE);
        CHECK.due("so many bytes", x.end(10), NONE);
        CHECK.due("the tape of image 1", x.text(0, 0), 0);
        CHECK.due("its seats", x.line(0, 1), 2);
        GriefTram full = new GriefTram();
        Check.tape(full, " ".repeat(593) + "hill 9;");
        full.image(2);
        full.end(0);
        full.feed(0x21212121, 0x21212121, 0x21212121, 0x21212121, 0x21212121);
        full.again(2);
        CHECK.due("a full tape", full.feed(0, 0, 0, 0, 0), NONE);
        CHECK.due("all its bytes", full.text(0, NONE), 0);
        CHECK.due("and the last ones", full.line(0, 10), 9);
    }

    private static void againOfNone() {
        CHECK.by("false if there is none such");
        GriefTram x = Check.withLine("hill 4;");
        x.image(1);
        Check.tellAt(x, 0, "hill 5;", 0);
        Check.tape(x, "   ");
        for (int k = -4; k <= 6; k++) {
            if (k != 1) {
                CHECK.due("again " + k, x.again(k), false);
            }
        }
        for (int k : Check.FAR) {
            CHECK.due("again " + k, x.again(k), false);
        }
        CHECK.due("a refused again leaves what is told", x.line(0, 10), 5);
        CHECK.due("and the tape", x.end(3), 3);
        CHECK.due("the one that is there", x.again(1), true);
        CHECK.due("its hill", x.line(0, 10), 4);
    }

    private static void againLeavesImages() {
        CHECK.by("All that is as image k has it");
        GriefTram x = Check.withLine("hill 1;");
        x.image(0);
        Check.tellAt(x, 0, "hill 2;", 0);
        x.image(1);
        CHECK.due("again 0", x.again(0), true);
        Check.tellAt(x, 0, "hill 3;", 0);
        CHECK.due("the image is as it was", x.again(0), true);
        CHECK.due("hill of image 0", x.line(0, 10), 1);
        CHECK.due("the other image is there", x.again(1), true);
        CHECK.due("hill of image 1", x.line(0, 10), 2);
        x.image(0);
        Check.tellAt(x, 0, "hill 4;", 0);
        x.again(0);
        CHECK.due("a later image strikes", x.line(0, 10), 2);
    }

    private static void againTakesBackHowMany() {
        CHECK.by("All that is as image k has it");
        GriefTram x = new GriefTram();
        x.image(0);
        for (int sort = 0; sort < 4; sort++) {
            x.text(sort, NONE);
            x.text(sort, NONE);
        }
        x.again(0);
        for (int sort = 0; sort < 4; sort++) {
            CHECK.due("none of " + sort, x.count(sort), 0);
            CHECK.due("none in the place of 0 of " + sort, x.text(sort, 0), -2);
            CHECK.due("the first one anew of " + sort, x.text(sort, NONE), 0);
        }
    }
}
