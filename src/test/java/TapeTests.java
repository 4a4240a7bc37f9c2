/** Promises 1 to 5 and 32 to 34: the tape, texts, faults, how many there are, images. */
public final class TapeTests {
    private static final Check CHECK = new Check("TapeTests");
    private static final int NONE = GriefTram.NONE;

    public static void main(String[] args) {
        newObject();
        feedAndEnd();
        textNumbers();
        tapeIsTakenAlways();
        faultOnes();
        faultTwos();
        faultThrees();
        faultFours();
        laterOnesStrike();
        images();
        CHECK.end();
    }

    private static void newObject() {
        GriefTram x = new GriefTram();
        CHECK.due("NONE", NONE, -1);
        for (int sort = 0; sort < 4; sort++) {
            CHECK.due("new count " + sort, x.count(sort), 0);
        }
        CHECK.due("count -1", x.count(-1), -2);
        CHECK.due("count 4", x.count(4), -2);
        CHECK.due("count least", x.count(Integer.MIN_VALUE), -2);
        CHECK.due("count greatest", x.count(Integer.MAX_VALUE), -2);
        CHECK.due("new fault", x.fault(0), 0);
        CHECK.due("new place", x.fault(1), NONE);
        CHECK.due("new again 0", x.again(0), false);
        CHECK.due("new again 2", x.again(2), false);
        CHECK.due("new tape", x.end(1), NONE);
        CHECK.due("new line", x.line(0, 0), NONE);
        CHECK.due("new deed", x.deed(0, NONE, 0), -2);
        CHECK.due("new stop", x.stop(0, 0), NONE);
        CHECK.due("new state", x.state(0, 0, 0, 0), -2);
        CHECK.due("new flow", x.flow(0, 0), NONE);
        CHECK.due("new fact", x.fact(0, NONE, 0), -2);
    }

    private static void feedAndEnd() {
        GriefTram x = new GriefTram();
        for (int i = 1; i <= 30; i++) {
            CHECK.due("feed " + i, x.feed(1, 2, 3, 4, 5), 20 * i);
        }
        CHECK.due("feed a 31st time", x.feed(1, 2, 3, 4, 5), NONE);
        CHECK.due("nothing came", x.end(601), NONE);
        CHECK.due("end below 0", x.end(-1), NONE);
        CHECK.due("end least", x.end(Integer.MIN_VALUE), NONE);
        CHECK.due("end greatest", x.end(Integer.MAX_VALUE), NONE);
        CHECK.due("end 600", x.end(600), 600);
        CHECK.due("end 581", x.end(581), 581);
        CHECK.due("feed at 581", x.feed(1, 2, 3, 4, 5), NONE);
        CHECK.due("end 580", x.end(580), 580);
        CHECK.due("end 581 then", x.end(581), NONE);
        CHECK.due("feed at 580", x.feed(1, 2, 3, 4, 5), 600);
        CHECK.due("end 0", x.end(0), 0);
        CHECK.due("end 1 then", x.end(1), NONE);

        // "hill", " 12;", of each number the highest byte first
        GriefTram y = new GriefTram();
        y.feed(0x68696C6C, 0x2031323B, 0x68696C6C, 0x2030333B, 0x20200A20);
        CHECK.due("bytes in order", y.text(0, NONE), 0);
        CHECK.due("first hill", y.line(0, 10), 12);
        CHECK.due("second hill", y.line(0, 11), 3);
        CHECK.due("hills", y.line(0, 0), 2);
    }

    private static void textNumbers() {
        GriefTram x = new GriefTram();
        for (int sort = 0; sort < 4; sort++) {
            CHECK.due("first text " + sort, x.text(sort, NONE), 0);
            CHECK.due("count " + sort, x.count(sort), 1);
            CHECK.due("in place of none " + sort, x.text(sort, 1), -2);
            CHECK.due("second text " + sort, x.text(sort, NONE), 1);
            CHECK.due("third text " + sort, x.text(sort, NONE), -2);
            CHECK.due("in place of 0 of " + sort, x.text(sort, 0), 0);
            CHECK.due("in place of 1 of " + sort, x.text(sort, 1), 1);
            CHECK.due("in place of 2 of " + sort, x.text(sort, 2), -2);
            CHECK.due("in place of -2 of " + sort, x.text(sort, -2), -2);
            CHECK.due("in place of the least of " + sort, x.text(sort, Integer.MIN_VALUE), -2);
            CHECK.due("count behind " + sort, x.count(sort), 2);
        }
        CHECK.due("no such sort", x.text(4, NONE), -2);
        CHECK.due("no such sort", x.text(-1, 0), -2);

        GriefTram y = Check.withLine("hill 7;");
        CHECK.due("a taken tape is empty", y.end(1), NONE);
        CHECK.due("a fault", Check.tellAt(y, 0, "hill 8; hill;", 0), NONE);
        CHECK.due("a tape with a fault is empty", y.end(1), NONE);
        CHECK.due("and the old one stands", y.line(0, 10), 7);
        CHECK.due("a fault, further", Check.tell(y, 0, "seats 0;"), NONE);
        CHECK.due("none further", y.count(0), 1);
        CHECK.due("fault", y.fault(0), 2);
        CHECK.due("place", y.fault(1), 6);
        CHECK.due("fault 2", y.fault(2), NONE);
        CHECK.due("fault -1", y.fault(-1), NONE);
        Check.tape(y, "hill 9;");
        CHECK.due("none such", y.text(0, 5), -2);
        CHECK.due("fault 0 then", y.fault(0), 0);
        CHECK.due("no place then", y.fault(1), NONE);
        CHECK.due("no text was read", y.line(0, 10), 7);
    }

    /** The tape is taken, and is empty then, whatever text() answers. */
    private static void tapeIsTakenAlways() {
        for (int sort = 0; sort < 4; sort++) {
            GriefTram x = new GriefTram();
            taken("further " + sort, x, sort, NONE, "", 0);
            taken("with a fault " + sort, x, sort, NONE, "!", NONE);
            taken("none such " + sort, x, sort, 1, "", -2);
            taken("none such with a fault in it " + sort, x, sort, -2, "!", -2);
            taken("in the place of one " + sort, x, sort, 0, "", 0);
            taken("second " + sort, x, sort, NONE, "", 1);
            taken("as many as may be " + sort, x, sort, NONE, "", -2);
            CHECK.due("none further " + sort, x.count(sort), 2);
        }
        GriefTram y = Check.withLine("hill 7;");
        for (int sort : new int[] {-2, -1, 4, Integer.MIN_VALUE, Integer.MAX_VALUE}) {
            taken("no such sort " + sort, y, sort, NONE, "hill 9;", -2);
            taken("no such sort, in a place " + sort, y, sort, 0, "hill 9;", -2);
        }
        CHECK.due("a text that was not read is nowhere", y.text(0, 0), 0);
        CHECK.due("an empty line then", y.line(0, 0), 0);
    }

    private static void taken(String of, GriefTram x, int sort, int at, String more, int answer) {
        Check.tape(x, more + "    ");
        CHECK.due("text: " + of, x.text(sort, at), answer);
        CHECK.due("nothing is left: " + of, x.end(1), NONE);
        CHECK.due("the tape begins anew: " + of, x.feed(0, 0, 0, 0, 0), 20);
        CHECK.due("cut again: " + of, x.end(0), 0);
    }

    private static void faulty(int sort, String text, int fault, int place) {
        GriefTram x = new GriefTram();
        CHECK.due("text of " + sort + ": " + text, Check.tell(x, sort, text), fault == 0 ? 0 : NONE);
        CHECK.due("fault of " + sort + ": " + text, x.fault(0), fault);
        CHECK.due("place of " + sort + ": " + text, x.fault(1), place);
        CHECK.due("count of " + sort + ": " + text, x.count(sort), fault == 0 ? 1 : 0);
    }

    private static void faultOnes() {
        faulty(0, "", 0, NONE);
        faulty(0, " \n ", 0, NONE);
        faulty(0, "hill5;", 0, NONE);
        faulty(0, "\nhill\n05 ; seats 6\n;", 0, NONE);
        faulty(0, "riderloss 5;", 1, 0);
        faulty(0, "rider loss5;", 0, NONE);
        faulty(0, "hill", 1, 4);
        faulty(0, "hill  ", 1, 6);
        faulty(0, "hill 5", 1, 6);
        faulty(0, "hill 5 ; ;", 1, 9);
        faulty(0, ";", 1, 0);
        faulty(0, "hill 100;", 1, 5);
        faulty(0, "hill 005;", 1, 5);
        faulty(0, "hill 5 6;", 1, 7);
        faulty(0, "hill\t5;", 1, 4);
        faulty(0, "hill 5;\r", 1, 7);
        faulty(0, "hilly 5;", 1, 0);
        faulty(0, "hil 5;", 1, 0);
        faulty(0, "Hill 5;", 1, 0);
        faulty(0, "hiLl 5;", 1, 0);
        faulty(0, "hillX5;", 1, 4);
        faulty(0, "hill 5\u00e9;", 1, 6);
        faulty(0, "hill -5;", 1, 5);
        faulty(0, "rider joy 1;", 1, 6);
        faulty(0, "rider 1;", 1, 6);
        faulty(0, "wear loss;", 1, 9);
        faulty(0, "fare 1;", 1, 6);
        faulty(0, "board 0 0;", 1, 0);
        faulty(0, "seats 0; hill;", 1, 13);
        faulty(1, "go 1;", 1, 3);
        faulty(1, "go;share;back;off 1;tell 1;joke 1;move 1 1;board 1 1;", 0, NONE);
        faulty(1, "board 0;", 1, 7);
        faulty(1, "hill 1;", 1, 0);
        faulty(2, "need;", 1, 4);
        faulty(2, "come 1;", 1, 6);
        faulty(2, "come 0 100;", 1, 7);
        faulty(2, "many 1;", 1, 0);
        faulty(3, "climbed 1;", 1, 9);
        faulty(3, "need 1;", 1, 0);
        faulty(3, "many 5;many", 1, 11);
    }

    private static void faultTwos() {
        faulty(0, "hill 0;hill 99;", 0, NONE);
        faulty(0, "seats 1;seats 6;", 0, NONE);
        faulty(0, "seats 0;", 2, 6);
        faulty(0, "seats 7;", 2, 6);
        faulty(0, "rider loss 60;", 0, NONE);
        faulty(0, "rider loss 61;", 2, 11);
        faulty(0, "wear false 9;", 0, NONE);
        faulty(0, "wear loss 10;", 2, 10);
        faulty(0, "fare 0 1;", 2, 5);
        faulty(0, "fare 1 0;fare 8 99;", 0, NONE);
        faulty(0, "fare 9 1;", 2, 5);
        faulty(0, "seats 9;seats 8;", 2, 6);
        faulty(1, "board 7 5;", 0, NONE);
        faulty(1, "board 8 0;", 2, 6);
        faulty(1, "board 0 6;", 2, 8);
        faulty(1, "board 8 6;", 2, 6);
        faulty(1, "move 8 0;", 2, 5);
        faulty(1, "move 7 6;", 2, 7);
        faulty(1, "off 8;", 2, 4);
        faulty(1, "off 7;", 0, NONE);
        faulty(1, "tell 0;", 2, 5);
        faulty(1, "tell 9;", 0, NONE);
        faulty(1, "tell 10;", 2, 5);
        faulty(1, "joke 0;", 2, 5);
        faulty(1, "joke 10;", 2, 5);
        faulty(2, "need 0;", 2, 5);
        faulty(2, "need 1;need 99;", 0, NONE);
        faulty(2, "come 23 99;come 0 0;", 0, NONE);
        faulty(2, "come 24 1;", 2, 5);
        faulty(3, "many 0;", 2, 5);
        faulty(3, "many 5;", 2, 5);
        faulty(3, "many 1;many 4;", 0, NONE);
        faulty(3, "climbed 0 1;", 2, 8);
        faulty(3, "climbed 16 1;", 2, 8);
        faulty(3, "stalled 1 0;", 2, 10);
        faulty(3, "stalled 1 37;", 2, 10);
        faulty(3, "many 4;stalled 15 36;climbed 1 1;", 0, NONE);
    }

    private static void faultThrees() {
        String hills = "hill 1;".repeat(8);
        String riders = "rider loss 1;".repeat(8);
        String deeds = "share;".repeat(40);
        String facts = "climbed 1 1;".repeat(10);
        faulty(0, hills, 0, NONE);
        faulty(0, hills + " hill 1;", 3, 57);
        faulty(0, riders, 0, NONE);
        faulty(0, riders + "rider love 61;", 3, 104);
        faulty(0, "rider loss 61;" + riders, 2, 11);
        faulty(0, hills + "hill 1;seats 0;", 3, 56);
        faulty(0, hills + "seats 0;hill 1;", 2, 62);
        faulty(0, hills + "hill 1;hill", 1, 67);
        faulty(1, deeds, 0, NONE);
        faulty(1, deeds + "go;", 3, 240);
        faulty(1, deeds + "tell 0;", 3, 240);
        faulty(3, facts, 0, NONE);
        faulty(3, facts + "stalled 1 1;", 3, 120);
        faulty(3, facts + "climbed 4 1;", 3, 120);
    }

    private static void faultFours() {
        faulty(3, "climbed 4 1;", 4, 12);
        faulty(3, "climbed 4 1; ", 4, 13);
        faulty(3, "climbed 3 1;", 0, NONE);
        faulty(3, "climbed 4 1;many 3;", 0, NONE);
        faulty(3, "many 3;climbed 4 1;many 2;", 4, 26);
        faulty(3, "many 1;stalled 2 1;", 4, 19);
        faulty(3, "many 4;climbed 15 1;", 0, NONE);
        faulty(3, "many 3;climbed 8 1;", 4, 19);
        faulty(3, "climbed 4 1;many 5;", 2, 17);
        faulty(3, "climbed 4 1;go;", 1, 12);
    }

    private static void laterOnesStrike() {
        GriefTram x = Check.withLine("seats 2;seats 5;wear love 3;wear love 4;fare 2 9;fare 2 7;hill 1;hill 2;");
        CHECK.due("seats", x.line(0, 1), 5);
        CHECK.due("wear", x.line(0, 41), 4);
        CHECK.due("fare", x.line(0, 52), 7);
        CHECK.due("hills", x.line(0, 0), 2);
        Check.tell(x, 2, "need 3;need 4;come 5 6;come 5 7;");
        CHECK.due("need", x.flow(0, 0), 4);
        CHECK.due("come", x.flow(0, 15), 7);
        Check.tell(x, 3, "many 3;many 1;climbed 1 2;climbed 1 3;");
        CHECK.due("many", x.fact(0, NONE, 0), 1);
        CHECK.due("facts", x.fact(0, NONE, 1), 2);
        Check.tell(x, 0, "rider loss 1;rider loss 2;");
        CHECK.due("riders", x.line(1, 2), 2);
        CHECK.due("no hills of the former line", x.line(1, 0), 0);
        Check.tellAt(x, 0, "rider loss 1;", 1);
        CHECK.due("no riders of the former text", x.line(1, 2), 1);
        Check.tell(x, 2, "");
        CHECK.due("nothing of the former flow", x.flow(1, 15), 0);
        Check.tell(x, 3, "");
        CHECK.due("no facts of the former sight", x.fact(1, NONE, 1), 0);
        CHECK.due("a text in place begins anew", Check.tellAt(x, 0, "hill 9;", 0), 0);
        CHECK.due("seats at first", x.line(0, 1), 4);
        CHECK.due("wear at first", x.line(0, 41), 1);
        CHECK.due("fare at first", x.line(0, 52), 2);
        CHECK.due("one hill", x.line(0, 0), 1);
    }

    private static void images() {
        GriefTram x = Check.withLine("hill 1;rider loss 9;");
        Check.tell(x, 1, "board 0 0;go;");
        Check.tell(x, 2, "need 5;");
        Check.tell(x, 3, "many 1;climbed 1 4;stalled 1 8;");
        CHECK.due("fits", x.fits(0, 0), 4);
        Check.tell(x, 0, "seats 0;");
        Check.tape(x, "hill 3;");
        CHECK.due("image -1", x.image(-1), false);
        CHECK.due("image 3", x.image(3), false);
        CHECK.due("image 0", x.image(0), true);
        CHECK.due("image leaves the tape", x.text(0, NONE), 1);
        CHECK.due("image 2", x.image(2), true);
        Check.tellAt(x, 0, "hill 5;hill 6;", 0);
        Check.tellAt(x, 1, "", 0);
        Check.tellAt(x, 2, "need 6;", 0);
        Check.tellAt(x, 3, "many 1;climbed 1 9;", 0);
        Check.tell(x, 3, "");
        CHECK.due("fits anew", x.fits(0, 0), 1);
        CHECK.due("again 1", x.again(1), false);
        CHECK.due("again -1", x.again(-1), false);
        CHECK.due("again 3", x.again(3), false);
        CHECK.due("a refused again does nothing", x.line(0, 0), 2);
        CHECK.due("again 0", x.again(0), true);
        CHECK.due("fault again", x.fault(0), 2);
        CHECK.due("place again", x.fault(1), 6);
        CHECK.due("lines again", x.count(0), 1);
        CHECK.due("hill again", x.line(0, 10), 1);
        CHECK.due("rider again", x.line(0, 30), 9);
        CHECK.due("deeds again", x.deed(0, NONE, 0), 2);
        CHECK.due("need again", x.flow(0, 0), 5);
        CHECK.due("sights again", x.count(3), 1);
        CHECK.due("fits again", x.fits(0, 0), 4);
        CHECK.due("ask again", x.fits(0, 1), 46);
        CHECK.due("least again", x.fits(0, 10), 4);
        CHECK.due("most again", x.fits(0, 20), 7);
        CHECK.due("tape again", x.text(0, NONE), 1);
        CHECK.due("its hill", x.line(1, 10), 3);
        CHECK.due("again 0 once more", x.again(0), true);
        CHECK.due("an image is not worn off", x.count(0), 1);
        CHECK.due("again 2", x.again(2), true);
        CHECK.due("two lines", x.count(0), 2);
        CHECK.due("no tape", x.end(1), NONE);
        CHECK.due("no fault", x.fault(0), 0);
        Check.tellAt(x, 2, "need 77;", 0);
        CHECK.due("image 2 anew", x.image(2), true);
        Check.tellAt(x, 2, "need 78;", 0);
        CHECK.due("again 2 anew", x.again(2), true);
        CHECK.due("need as image 2 has it", x.flow(0, 0), 77);
    }
}
