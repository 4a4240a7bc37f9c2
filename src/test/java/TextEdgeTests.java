/** The edges that Terms 1 names, of texts and what they tell: a method for each sentence. */
public final class TextEdgeTests {
    private static final Check CHECK = new Check("TextEdgeTests");
    private static final int NONE = GriefTram.NONE;
    private static final String[] KINDS = {"loss", "love", "shame", "false"};

    public static void main(String[] args) {
        hillsAtMostEight();
        aHillsHeight();
        oneStopMoreThanHills();
        seatsOneToSix();
        ridersAtMostEight();
        ouncesUpToSixty();
        wearUpToNine();
        faresForOneToEight();
        whatKindsPull();
        deedsAtMostForty();
        needOneToNinetyNine();
        hoursUpToTwentyThree();
        strangersOneToFour();
        factsAtMostTen();
        setsAndHillsOfFacts();
        tapeAtMostSixHundred();
        blanksAreTwoBytes();
        bytesBehindAWord();
        bytesBehindANumber();
        tokensAsLongAsTheyGo();
        numbersOfOneOrTwoDigits();
        anEmptyTextIsOne();
        eachSortHasItsOwnWords();
        whatComesBehindEachToken();
        numbersOfDeeds();
        laterOnesStrike();
        furtherOnesDoNot();
        placesOfFaults();
        faultOneGoesAheadOfAll();
        theFirstByPlace();
        aWrongNumberTellsAllTheSame();
        faultFourBehindAll();
        atMostTwoOfEachSort();
        CHECK.end();
    }

    private static void faulty(int sort, String text, int fault, int place) {
        GriefTram x = new GriefTram();
        CHECK.due("text of " + sort + ": " + text, Check.tell(x, sort, text), fault == 0 ? 0 : NONE);
        CHECK.due("fault of " + sort + ": " + text, x.fault(0), fault);
        CHECK.due("place of " + sort + ": " + text, x.fault(1), place);
        CHECK.due("count of " + sort + ": " + text, x.count(sort), fault == 0 ? 1 : 0);
    }

    /** Each n from low to high may be told in a text, and no other of two digits. */
    private static void range(int sort, String ahead, String behind, int low, int high) {
        for (int n = 0; n <= 99; n++) {
            boolean may = n >= low && n <= high;
            faulty(sort, ahead + n + behind, may ? 0 : 2, may ? NONE : ahead.length());
        }
    }

    // ---- a line

    private static void hillsAtMostEight() {
        CHECK.by("HILLS, at most 8, from 0 on");
        for (int many = 0; many <= 8; many++) {
            GriefTram x = Check.withLine("hill 3;".repeat(many));
            CHECK.due("hills", x.line(0, 0), many);
            for (int k = 0; k <= 9; k++) {
                CHECK.due(many + " hills, hill " + k, x.line(0, 10 + k), k < many ? 3 : NONE);
            }
        }
        faulty(0, "hill 3;".repeat(9), 3, 56);
        faulty(0, "hill 3;".repeat(12), 3, 56);
    }

    private static void aHillsHeight() {
        CHECK.by("HILLS .. 0 .. 99 each");
        range(0, "hill ", ";", 0, 99);
        for (int height : new int[] {0, 1, 9, 10, 98, 99}) {
            CHECK.due("hill " + height, Check.withLine("hill " + height + ";").line(0, 10), height);
        }
    }

    private static void oneStopMoreThanHills() {
        CHECK.by("STOPS: one more than HILLS");
        for (int many = 0; many <= 8; many++) {
            GriefTram x = Check.withLine("hill 0;".repeat(many));
            for (int from = -1; from <= 10; from++) {
                CHECK.due(many + " hills, from " + from, x.comes(0, 0, from), from >= 0 && from <= many ? many : NONE);
            }
        }
    }

    private static void seatsOneToSix() {
        CHECK.by("SEATS, 1 .. 6 (4 at first)");
        range(0, "seats ", ";", 1, 6);
        CHECK.due("seats at first", Check.withLine("").line(0, 1), 4);
        CHECK.due("one seat", Check.withLine("seats 1;").line(0, 1), 1);
        CHECK.due("six seats", Check.withLine("seats 6;").line(0, 1), 6);
    }

    private static void ridersAtMostEight() {
        CHECK.by("RIDERS, at most 8, from 0 on: a KIND, OUNCES");
        for (int many = 0; many <= 8; many++) {
            StringBuilder text = new StringBuilder();
            for (int r = 0; r < many; r++) {
                text.append("rider ").append(KINDS[r % 4]).append(' ').append(10 + r).append(';');
            }
            GriefTram x = Check.withLine(text.toString());
            CHECK.due("riders", x.line(0, 2), many);
            for (int r = 0; r <= 9; r++) {
                CHECK.due(many + " riders, kind of " + r, x.line(0, 20 + r), r < many ? r % 4 : NONE);
                CHECK.due(many + " riders, ounces of " + r, x.line(0, 30 + r), r < many ? 10 + r : NONE);
            }
        }
        faulty(0, "rider loss 3;".repeat(9), 3, 104);
    }

    private static void ouncesUpToSixty() {
        CHECK.by("RIDERS .. OUNCES, 0 .. 60");
        for (String kind : KINDS) {
            range(0, "rider " + kind + " ", ";", 0, 60);
        }
        CHECK.due("none", Check.withLine("rider love 0;").line(0, 30), 0);
        CHECK.due("sixty", Check.withLine("rider love 60;").line(0, 30), 60);
    }

    private static void wearUpToNine() {
        CHECK.by("WEAR of each KIND, 0 .. 9 (1 at first)");
        for (int kind = 0; kind < 4; kind++) {
            range(0, "wear " + KINDS[kind] + " ", ";", 0, 9);
            for (int wear : new int[] {0, 9}) {
                GriefTram x = Check.withLine("wear " + KINDS[kind] + " " + wear + ";");
                for (int other = 0; other < 4; other++) {
                    CHECK.due("wear of " + other, x.line(0, 40 + other), other == kind ? wear : 1);
                }
            }
        }
    }

    private static void faresForOneToEight() {
        CHECK.by("FARES for 1 to 8 HILLS, 0 .. 99 each (as many as HILLS at first)");
        range(0, "fare ", " 1;", 1, 8);
        for (int n = 1; n <= 8; n++) {
            range(0, "fare " + n + " ", ";", 0, 99);
            for (int fare : new int[] {0, 99}) {
                GriefTram x = Check.withLine("fare " + n + " " + fare + ";");
                for (int other = 1; other <= 8; other++) {
                    CHECK.due("fare for " + other, x.line(0, 50 + other), other == n ? fare : other);
                }
            }
        }
    }

    private static void whatKindsPull() {
        CHECK.by("A RIDER PULLS: LOSS his OUNCES, LOVE twice them, SHAME half of them (cut), FALSE nothing");
        for (int ounces : new int[] {0, 1, 2, 3, 59, 60}) {
            int[] due = {ounces, 2 * ounces, ounces / 2, 0};
            for (int kind = 0; kind < 4; kind++) {
                GriefTram x = Check.withLine("rider " + KINDS[kind] + " " + ounces + ";");
                CHECK.due(KINDS[kind] + " of " + ounces + " pulls", x.line(0, 60), due[kind]);
            }
        }
    }

    // ---- rides, flows, sights

    private static void deedsAtMostForty() {
        CHECK.by("A RIDE has DEEDS, at most 40, from 0 on");
        for (int many : new int[] {0, 1, 39, 40}) {
            GriefTram x = Check.with(Check.RIDE, "share;".repeat(many));
            CHECK.due("deeds", x.deed(0, NONE, 0), many);
            for (int k = 0; k <= 41; k++) {
                CHECK.due(many + " deeds, deed " + k, x.deed(0, k, 0), k < many ? 6 : -2);
            }
        }
        faulty(1, "share;".repeat(41), 3, 240);
        for (String deed : new String[] {"board 0 0;", "move 0 0;", "off 0;", "tell 1;", "joke 1;", "go;", "back;"}) {
            faulty(1, "go;".repeat(39) + deed, 0, NONE);
            faulty(1, "go;".repeat(40) + deed, 3, 120);
        }
    }

    private static void needOneToNinetyNine() {
        CHECK.by("A FLOW has a NEED, 1 .. 99 (10 at first)");
        range(2, "need ", ";", 1, 99);
        CHECK.due("need at first", Check.with(Check.FLOW, "").flow(0, 0), 10);
        CHECK.due("need 1", Check.with(Check.FLOW, "need 1;").flow(0, 0), 1);
        CHECK.due("need 99", Check.with(Check.FLOW, "need 99;").flow(0, 0), 99);
    }

    private static void hoursUpToTwentyThree() {
        CHECK.by("OUNCES that come at each hour, 0 .. 23, 0 .. 99 each (0 at first)");
        range(2, "come ", " 1;", 0, 23);
        range(2, "come 0 ", ";", 0, 99);
        range(2, "come 23 ", ";", 0, 99);
        for (int told : new int[] {0, 23}) {
            GriefTram x = Check.with(Check.FLOW, "come " + told + " 99;");
            for (int h = 0; h < 24; h++) {
                CHECK.due("told " + told + ", hour " + h, x.flow(0, 10 + h), h == told ? 99 : 0);
            }
        }
    }

    private static void strangersOneToFour() {
        CHECK.by("A SIGHT has STRANGERS, 1 .. 4 (2 at first), from 0 on");
        range(3, "many ", ";", 1, 4);
        CHECK.due("strangers at first", Check.with(Check.SIGHT, "").fact(0, NONE, 0), 2);
        for (int many = 1; many <= 4; many++) {
            GriefTram x = Check.with(Check.SIGHT, "many " + many + ";");
            CHECK.due("strangers", x.fact(0, NONE, 0), many);
            for (int s = 0; s <= 9; s++) {
                CHECK.due(many + " strangers, least of " + s, x.fits(0, 10 + s), s < many ? 0 : -2);
                CHECK.due(many + " strangers, most of " + s, x.fits(0, 20 + s), s < many ? 9 : -2);
            }
        }
    }

    private static void factsAtMostTen() {
        CHECK.by("FACTS, at most 10, from 0 on");
        for (String fact : new String[] {"climbed 1 1;", "stalled 1 1;"}) {
            for (int many : new int[] {0, 1, 9, 10}) {
                GriefTram x = Check.with(Check.SIGHT, fact.repeat(many));
                CHECK.due("facts", x.fact(0, NONE, 1), many);
                for (int k = 0; k <= 11; k++) {
                    CHECK.due(many + " facts, set of " + k, x.fact(0, k, 1), k < many ? 1 : -2);
                }
            }
            faulty(3, fact.repeat(11), 3, 120);
        }
        faulty(3, "stalled 1 1;".repeat(9) + "climbed 1 1;many 3;climbed 1 1;", 3, 127);
    }

    private static void setsAndHillsOfFacts() {
        CHECK.by("a set of STRANGERS (bits, 1 .. 15) climbed a hill of so much, 1 .. 36, or stalled");
        for (String fact : new String[] {"climbed ", "stalled "}) {
            range(3, "many 4;" + fact, " 1;", 1, 15);
            range(3, "many 4;" + fact + "15 ", ";", 1, 36);
        }
    }

    // ---- the tape and its tokens

    private static void tapeAtMostSixHundred() {
        CHECK.by("THE TAPE has at most 600 bytes");
        String full = "hill 9;" + " ".repeat(593);
        GriefTram x = new GriefTram();
        Check.tape(x, full);
        CHECK.due("a full tape", x.end(600), 600);
        CHECK.due("no 601st byte", x.feed(0, 0, 0, 0, 0), NONE);
        CHECK.due("all of it is a text", x.text(0, NONE), 0);
        CHECK.due("its hill", x.line(0, 10), 9);
        faulty(0, " ".repeat(593) + "hill 9;", 0, NONE);
        faulty(0, " ".repeat(594) + "hill 9", 1, 600);
        faulty(0, " ".repeat(599) + "!", 1, 599);
        faulty(0, " ".repeat(596) + "hill", 1, 600);
        faulty(0, " ".repeat(590) + "rider loss", 1, 600);
        faulty(0, " ".repeat(599) + "h", 1, 599);
        faulty(0, " ".repeat(599) + "5", 1, 599);
        faulty(3, "climbed 4 1;" + " ".repeat(588), 4, 600);
    }

    private static String with(String ahead, int sign, String behind) {
        return ahead + (char) sign + behind;
    }

    private static boolean isBlank(int b) {
        return b == 10 || b == 32;
    }

    private static boolean isLetter(int b) {
        return b >= 97 && b <= 122;
    }

    private static boolean isDigit(int b) {
        return b >= 48 && b <= 57;
    }

    private static void blanksAreTwoBytes() {
        CHECK.by("blanks (10, 32) between");
        for (int sort = 0; sort < 4; sort++) {
            for (int b = 0; b < 256; b++) {
                faulty(sort, with("", b, ""), isBlank(b) ? 0 : 1, isBlank(b) ? NONE : 0);
                faulty(sort, with(" \n", b, "\n "), isBlank(b) ? 0 : 1, isBlank(b) ? NONE : 2);
            }
        }
        faulty(0, "\n \nrider \n\nlove\n 7 \n;  \n", 0, NONE);
    }

    private static void bytesBehindAWord() {
        CHECK.by("words, rows of letters a .. z");
        for (int b = 0; b < 256; b++) {
            boolean goesOn = isBlank(b) || isDigit(b);
            faulty(0, with("hill", b, "5;"), goesOn ? 0 : 1, goesOn ? NONE : isLetter(b) ? 0 : 4);
            faulty(0, with("", b, "hill 5;"), isBlank(b) ? 0 : 1, isBlank(b) ? NONE : 0);
        }
    }

    private static void bytesBehindANumber() {
        CHECK.by("NUMBERS, 1 or 2 digits; ; one byte");
        for (int b = 0; b < 256; b++) {
            boolean goesOn = isBlank(b) || isDigit(b);
            faulty(0, with("hill 5", b, ";"), goesOn ? 0 : 1, goesOn ? NONE : b == ';' ? 7 : 6);
            faulty(0, with("hill 5;", b, "hill 6;"), isBlank(b) ? 0 : 1, isBlank(b) ? NONE : 7);
        }
    }

    private static void tokensAsLongAsTheyGo() {
        CHECK.by("TOKENS, as long as they go");
        faulty(0, "hillhill 5;", 1, 0);
        faulty(0, "hil l 5;", 1, 0);
        faulty(0, "hill5;hill6;rider loss7;wear love1;fare1 2;seats2;", 0, NONE);
        faulty(0, "riderloss 5;", 1, 0);
        faulty(0, "rider losslove 5;", 1, 6);
        faulty(1, "gogo;", 1, 0);
        faulty(1, "go;share;back;", 0, NONE);
        CHECK.due("two digits are one number", Check.withLine("hill12;").line(0, 10), 12);
        CHECK.due("of two numbers", Check.withLine("fare 1 23;").line(0, 51), 23);
        faulty(0, "fare 123;", 1, 5);
        faulty(0, "fare12;", 1, 6);
    }

    private static void numbersOfOneOrTwoDigits() {
        CHECK.by("a longer row of digits is no token");
        CHECK.due("a nought ahead", Check.withLine("hill 07;").line(0, 10), 7);
        CHECK.due("two noughts", Check.withLine("hill 00;").line(0, 10), 0);
        faulty(0, "hill 007;", 1, 5);
        faulty(0, "hill 100;", 1, 5);
        faulty(0, "hill 0000000000;", 1, 5);
        faulty(0, "hill 4294967297;", 1, 5);
        faulty(0, "hill " + "9".repeat(595), 1, 5);
        faulty(0, "123", 1, 0);
        faulty(0, "hill 5 123;", 1, 7);
        faulty(0, "seats 004;", 1, 6);
        faulty(2, "come 023 1;", 1, 5);
        faulty(2, "come 23 001;", 1, 8);
        faulty(3, "climbed 001 1;", 1, 8);
        faulty(1, "board 000 0;", 1, 6);
    }

    private static void anEmptyTextIsOne() {
        CHECK.by("{ .. }: a text may have no part");
        for (int sort = 0; sort < 4; sort++) {
            faulty(sort, "", 0, NONE);
            faulty(sort, "\n  \n", 0, NONE);
            faulty(sort, ";", 1, 0);
        }
        GriefTram x = new GriefTram();
        for (int sort = 0; sort < 4; sort++) {
            CHECK.due("an empty tape is a text of " + sort, x.text(sort, NONE), 0);
        }
        CHECK.due("no hills", x.line(0, 0), 0);
        CHECK.due("no riders", x.line(0, 2), 0);
        CHECK.due("no deeds", x.deed(0, NONE, 0), 0);
        CHECK.due("nothing comes", x.flow(0, 4), 0);
        CHECK.due("no facts", x.fact(0, NONE, 1), 0);
    }

    private static void eachSortHasItsOwnWords() {
        CHECK.by("A LINE's text, A RIDE's text, A FLOW's text, A SIGHT's text");
        String[][] parts = {
            {"hill 1;", "seats 1;", "rider loss 1;", "wear loss 1;", "fare 1 1;"},
            {"board 1 1;", "move 1 1;", "off 1;", "tell 1;", "joke 1;", "go;", "share;", "back;"},
            {"need 1;", "come 1 1;"},
            {"many 1;", "climbed 1 1;", "stalled 1 1;"}};
        for (int of = 0; of < 4; of++) {
            for (String part : parts[of]) {
                for (int sort = 0; sort < 4; sort++) {
                    faulty(sort, part, sort == of ? 0 : 1, sort == of ? NONE : 0);
                }
                misspelt(of, part);
                faulty(of, part.substring(1), 1, 0);
                faulty(of, "x" + part, 1, 0);
                faulty(of, part.toUpperCase(), 1, 0);
            }
        }
        for (String kind : KINDS) {
            faulty(0, kind + " 1;", 1, 0);
            faulty(0, "hill " + kind + " 1;", 1, 5);
            for (int at = 0; at < kind.length(); at++) {
                faulty(0, "rider " + kind.substring(0, at) + "x" + kind.substring(at + 1) + " 1;", 1, 6);
            }
            faulty(0, "rider " + kind.substring(1) + " 1;", 1, 6);
            faulty(0, "rider " + kind + "s 1;", 1, 6);
            faulty(0, "wear " + kind.substring(0, kind.length() - 1) + " 1;", 1, 5);
        }
    }

    /** Another letter in the place of each of the first word's. */
    private static void misspelt(int sort, String part) {
        for (int at = 0; at < part.length() && isLetter(part.charAt(at)); at++) {
            faulty(sort, part.substring(0, at) + "x" + part.substring(at + 1), 1, 0);
            faulty(sort, part.substring(0, at) + part.substring(at + 1), 1, 0);
        }
    }

    /** Cuts a part behind each of its tokens, and puts each sort of token there that can't be. */
    private static void whatComesBehindEachToken() {
        CHECK.by("1 the first byte or token with which no text goes on");
        String[][] parts = {
            {"hill 1 ;", "seats 1 ;", "rider loss 1 ;", "wear loss 1 ;", "fare 1 1 ;"},
            {"board 1 1 ;", "move 1 1 ;", "off 1 ;", "tell 1 ;", "joke 1 ;", "go ;", "share ;", "back ;"},
            {"need 1 ;", "come 1 1 ;"},
            {"many 1 ;", "climbed 1 1 ;", "stalled 1 1 ;"}};
        for (int sort = 0; sort < 4; sort++) {
            for (String part : parts[sort]) {
                String[] tokens = part.split(" ");
                String ahead = "";
                for (String token : tokens) {
                    ahead += ahead.isEmpty() ? "" : " ";
                    if (!ahead.isEmpty()) {
                        faulty(sort, ahead, 1, ahead.length());
                    }
                    for (String other : new String[] {"zeal", "loss", "1", "100", ";", "!", "\t"}) {
                        if (!token.equals(other)) {
                            faulty(sort, ahead + other, 1, ahead.length());
                        }
                    }
                    ahead += token;
                }
            }
        }
    }

    private static void numbersOfDeeds() {
        CHECK.by("board, move: a RIDER, 0 .. 7, a SEAT, 0 .. 5; off: a RIDER; tell, joke: 1 .. 9");
        range(1, "board ", " 0;", 0, 7);
        range(1, "board 0 ", ";", 0, 5);
        range(1, "move ", " 0;", 0, 7);
        range(1, "move 7 ", ";", 0, 5);
        range(1, "off ", ";", 0, 7);
        range(1, "tell ", ";", 1, 9);
        range(1, "joke ", ";", 1, 9);
        GriefTram x = Check.with(Check.RIDE, "board 7 5;move 0 0;off 7;tell 9;joke 1;");
        CHECK.due("rider 7", x.deed(0, 0, 1), 7);
        CHECK.due("seat 5", x.deed(0, 0, 2), 5);
        CHECK.due("rider 0", x.deed(0, 1, 1), 0);
        CHECK.due("seat 0", x.deed(0, 1, 2), 0);
        CHECK.due("off 7", x.deed(0, 2, 1), 7);
        CHECK.due("tell 9", x.deed(0, 3, 1), 9);
        CHECK.due("joke 1", x.deed(0, 4, 1), 1);
    }

    // ---- later ones, faults

    private static void laterOnesStrike() {
        CHECK.by("Later ones strike");
        GriefTram x = Check.withLine("seats 6;seats 1;wear loss 9;wear loss 0;wear false 2;fare 8 1;fare 8 0;fare 1 7;");
        CHECK.due("seats", x.line(0, 1), 1);
        CHECK.due("wear", x.line(0, 40), 0);
        CHECK.due("another wear", x.line(0, 43), 2);
        CHECK.due("fare", x.line(0, 58), 0);
        CHECK.due("another fare", x.line(0, 51), 7);
        Check.tell(x, Check.FLOW, "need 99;need 1;come 23 99;come 23 0;come 0 4;");
        CHECK.due("need", x.flow(0, 0), 1);
        CHECK.due("come", x.flow(0, 33), 0);
        CHECK.due("another hour", x.flow(0, 10), 4);
        Check.tell(x, Check.SIGHT, "many 4;many 1;");
        CHECK.due("many", x.fact(0, NONE, 0), 1);
        faulty(0, "seats 7;seats 1;", 2, 6);
        faulty(2, "need 0;need 1;", 2, 5);
        faulty(3, "many 5;many 4;", 2, 5);
    }

    private static void furtherOnesDoNot() {
        CHECK.by("but HILLS, RIDERS, DEEDS, FACTS, which are further ones");
        GriefTram x = Check.withLine("hill 5;rider love 3;hill 5;rider love 3;");
        CHECK.due("hills", x.line(0, 0), 2);
        CHECK.due("riders", x.line(0, 2), 2);
        Check.tell(x, Check.RIDE, "tell 1;tell 1;tell 1;");
        CHECK.due("deeds", x.deed(0, NONE, 0), 3);
        Check.tell(x, Check.SIGHT, "climbed 1 1;climbed 1 1;");
        CHECK.due("facts", x.fact(0, NONE, 1), 2);
        CHECK.due("anew in its place", Check.tellAt(x, Check.LINE, "hill 4;", 0), 0);
        CHECK.due("hills of the new text alone", x.line(0, 0), 1);
        CHECK.due("riders of the new text alone", x.line(0, 2), 0);
    }

    private static void placesOfFaults() {
        CHECK.by("FAULTS of all, with places (a token's first byte; the end's)");
        faulty(0, "  \n zeal;", 1, 4);
        faulty(0, "hill \n  zeal;", 1, 8);
        faulty(0, "seats \n 99 ;", 2, 8);
        faulty(0, "hill 1;".repeat(8) + "\n\n hill 1;", 3, 59);
        faulty(3, "climbed 8 1; \n", 4, 14);
        faulty(0, "hill 5", 1, 6);
        faulty(0, "hill 5 \n ", 1, 9);
        faulty(0, "hill 5;h", 1, 7);
    }

    private static void faultOneGoesAheadOfAll() {
        CHECK.by("1 the first byte or token ..; if there is none, ..");
        faulty(0, "seats 0;rider loss 61;!", 1, 22);
        faulty(0, "hill 1;".repeat(9) + "hill", 1, 67);
        faulty(0, "seats 9 9;", 1, 8);
        faulty(1, "go;".repeat(41) + "100", 1, 123);
        faulty(3, "climbed 8 1;many 5;climbed", 1, 26);
        faulty(3, "climbed 8 1;;", 1, 12);
        faulty(2, "need 0;come 24 24", 1, 17);
        faulty(0, "! seats 0; !", 1, 0);
    }

    private static void theFirstByPlace() {
        CHECK.by("the first by place");
        faulty(0, "seats 7;seats 0;", 2, 6);
        faulty(0, "fare 9 1;hill 1;" + "hill 1;".repeat(8), 2, 5);
        faulty(0, "hill 1;".repeat(9) + "seats 0;", 3, 56);
        faulty(0, "hill 1;".repeat(9) + "rider loss 1;".repeat(9), 3, 56);
        faulty(0, "rider loss 1;".repeat(9) + "hill 1;".repeat(9), 3, 104);
        faulty(0, "hill 1;".repeat(8) + "seats 0;hill 1;", 2, 62);
        faulty(1, "board 8 6;", 2, 6);
        faulty(1, "board 7 6;board 8 0;", 2, 8);
        faulty(3, "stalled 16 37;", 2, 8);
        faulty(3, "stalled 15 37;", 2, 11);
        faulty(1, "go;".repeat(40) + "tell 0;", 3, 120);
        faulty(3, "climbed 1 1;".repeat(10) + "climbed 0 0;", 3, 120);
        faulty(0, "rider loss 1;".repeat(8) + "rider loss 61;", 3, 104);
    }

    private static void aWrongNumberTellsAllTheSame() {
        CHECK.by("a line with such a NUMBER tells its HILL, RIDER, DEED, FACT all the same");
        faulty(0, "rider loss 61;".repeat(9), 2, 11);
        faulty(0, "rider loss 1;".repeat(7) + "rider loss 61;rider loss 1;", 2, 102);
        faulty(1, "tell 0;" + "go;".repeat(40), 2, 5);
        faulty(3, "climbed 0 1;" + "climbed 1 1;".repeat(10), 2, 8);
    }

    private static void faultFourBehindAll() {
        CHECK.by("4 of a SIGHT a set that has one of whom there are not so many STRANGERS");
        for (int many = 1; many <= 4; many++) {
            for (int set = 1; set <= 15; set++) {
                for (String fact : new String[] {"climbed ", "stalled "}) {
                    String text = "many " + many + ";" + fact + set + " 1;";
                    boolean may = set < 1 << many;
                    faulty(3, text, may ? 0 : 4, may ? NONE : text.length());
                }
            }
        }
        faulty(3, "climbed 3 1;", 0, NONE);
        faulty(3, "climbed 4 1;", 4, 12);
        faulty(3, "climbed 15 1;many 4;", 0, NONE);
        faulty(3, "many 4;climbed 8 1;many 3;", 4, 26);
        faulty(3, "climbed 1 1;".repeat(9) + "stalled 4 1;", 4, 120);
        faulty(3, "stalled 4 1;climbed 1 1;", 4, 24);
        faulty(3, "climbed 4 1;many 0;", 2, 17);
        faulty(3, "climbed 4 1;".repeat(11), 3, 120);
    }

    private static void atMostTwoOfEachSort() {
        CHECK.by("LINES, at most 2 (sort 0), RIDES, at most 2 (1), FLOWS, at most 2 (2), SIGHTS, at most 2 (3), from 0 on");
        for (int sort = 0; sort < 4; sort++) {
            GriefTram x = new GriefTram();
            CHECK.due("first of " + sort, x.text(sort, NONE), 0);
            CHECK.due("second of " + sort, x.text(sort, NONE), 1);
            CHECK.due("third of " + sort, x.text(sort, NONE), -2);
            for (int other = 0; other < 4; other++) {
                CHECK.due("count of " + other, x.count(other), other == sort ? 2 : 0);
            }
        }
    }
}
