import com.sun.management.ThreadMXBean;
import java.lang.management.ManagementFactory;

/** All calls of a run live in one room: what an object and its images take, and that no other call takes more. */
public final class RoomTests {
    private static final Check CHECK = new Check("RoomTests");
    private static final ThreadMXBean THREAD = (ThreadMXBean) ManagementFactory.getThreadMXBean();
    private static final int CALLS = 33;
    private static final int IMAGES = 3;
    private static final int ROUNDS = 2000;
    private static final int OFTEN = 20;
    private static final int SMALL_ROOM = 48 * 1024;
    private static final String[][] TEXTS = {
        {"hill 7;hill 3;hill 9;seats 6;wear love 2;fare 2 1;rider loss 9;rider love 4;rider shame 12;rider false 8;"
            + "rider loss 6;rider love 9;rider loss 8;rider shame 40;", "hill 0;rider loss 3;rider loss 4;"},
        {"board 0 0;board 1 1;go;share;tell 3;go;off 0;go;back;go;joke 1;move 1 0;", "go;back;"},
        {"need 7;come 0 3;come 4 5;come 9 9;come 20 4;", "need 1;come 23 9;"},
        {"many 4;climbed 15 9;stalled 5 8;", "many 1;climbed 1 9;"}};

    public static void main(String[] args) {
        anObjectAndItsImages();
        noOtherCall();
        CHECK.end();
    }

    private static long taken() {
        return THREAD.getCurrentThreadAllocatedBytes();
    }

    private static GriefTram full() {
        GriefTram x = new GriefTram();
        for (int sort = 0; sort < TEXTS.length; sort++) {
            for (String text : TEXTS[sort]) {
                Check.tell(x, sort, text);
            }
        }
        for (int k = 0; k < IMAGES; k++) {
            x.image(k);
        }
        return x;
    }

    private static void anObjectAndItsImages() {
        CHECK.by("make rows in constructors and use them again");
        full();
        long before = taken();
        GriefTram x = new GriefTram();
        for (int k = 0; k < IMAGES; k++) {
            x.image(k);
        }
        long room = taken() - before;
        CHECK.due("an object and its images take little room, not " + room, room < SMALL_ROOM, true);
    }

    /** Small numbers of all sorts, the least ones far more often, so that every question is often answered. */
    private static int number(int round, int i) {
        int mixed = (round * 5 + i) * 1103515245 + 12345;
        mixed = (mixed ^ mixed >>> 15) * 1540483477 >>> 12;
        return mixed % 3 == 0 ? mixed / 3 % 40 - 2 : mixed / 3 % 4;
    }

    private static void noOtherCall() {
        CHECK.by("What a run makes is counted");
        int[] n = new int[5];
        for (int call = 0; call < CALLS; call++) {
            // once ahead, since the machine itself makes something when a method runs first
            askMany(full(), call, n);
            GriefTram x = full();
            long before = taken();
            int answered = askMany(x, call, n);
            long made = taken() - before;
            CHECK.due("call " + call + " makes nothing", made, 0);
            CHECK.due("call " + call + " is answered often, not " + answered, answered >= OFTEN, true);
        }
    }

    /** How many of them had an answer. */
    private static int askMany(GriefTram x, int call, int[] n) {
        int answered = 0;
        for (int round = 0; round < ROUNDS; round++) {
            for (int i = 0; i < n.length; i++) {
                n[i] = number(round, i);
            }
            answered += WildTests.call(x, call, n) >= 0 ? 1 : 0;
        }
        return answered;
    }
}
