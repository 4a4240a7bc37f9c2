import java.nio.charset.StandardCharsets;
import java.util.function.IntUnaryOperator;

/** What the tests share: feeding texts, and comparing an answer with the one that is due. */
final class Check {
    static final int LINE = 0;
    static final int RIDE = 1;
    static final int FLOW = 2;
    static final int SIGHT = 3;
    /** Numbers far from all that is ever there. */
    static final int[] FAR = {Integer.MIN_VALUE, Integer.MIN_VALUE + 1, -65536, -257, -100, 65536, 1 << 30,
        Integer.MAX_VALUE - 1, Integer.MAX_VALUE};

    private final String name;
    private String sentence = "";
    private int wrong;
    private int asked;

    Check(String name) {
        this.name = name;
    }

    /** The document's sentence that the answers from here on are due by. */
    void by(String words) {
        sentence = " [" + words + "]";
    }

    void due(String call, long got, long want) {
        asked++;
        if (got != want) {
            wrong++;
            if (wrong <= 40) {
                System.out.println(name + ": " + call + " answered " + got + ", due is " + want + sentence);
            }
        }
    }

    void due(String call, boolean got, boolean want) {
        due(call, got ? 1 : 0, want ? 1 : 0);
    }

    /** From low up to high: first the answers that are due, then 'none'. */
    void stretch(String call, IntUnaryOperator ask, int low, int high, int none, int... due) {
        for (int n = low; n <= high; n++) {
            int k = n - low;
            due(call + " " + n, ask.applyAsInt(n), k < due.length ? due[k] : none);
        }
    }

    void far(String call, IntUnaryOperator ask, int none) {
        for (int n : FAR) {
            due(call + " " + n, ask.applyAsInt(n), none);
        }
    }

    void end() {
        System.out.println(name + ": " + asked + " answers, " + wrong + " not as due");
        if (wrong != 0) {
            System.exit(1);
        }
    }

    /** Puts a text on an empty tape. */
    static void tape(GriefTram x, String text) {
        byte[] bytes = text.getBytes(StandardCharsets.ISO_8859_1);
        x.end(0);
        for (int at = 0; at < bytes.length; at += 20) {
            x.feed(number(bytes, at), number(bytes, at + 4), number(bytes, at + 8), number(bytes, at + 12),
                number(bytes, at + 16));
        }
        x.end(bytes.length);
    }

    private static int number(byte[] bytes, int at) {
        int n = 0;
        for (int i = at; i < at + 4; i++) {
            n = n << 8 | (i < bytes.length ? bytes[i] & 255 : ' ');
        }
        return n;
    }

    static int tell(GriefTram x, int sort, String text) {
        return tellAt(x, sort, text, GriefTram.NONE);
    }

    static int tellAt(GriefTram x, int sort, String text, int at) {
        tape(x, text);
        return x.text(sort, at);
    }

    /** A new object of one line. */
    static GriefTram withLine(String text) {
        GriefTram x = new GriefTram();
        if (tell(x, LINE, text) != 0) {
            throw new IllegalStateException("no line: " + text + ", fault " + x.fault(0) + " at " + x.fault(1));
        }
        return x;
    }

    static GriefTram with(int sort, String text) {
        GriefTram x = new GriefTram();
        if (tell(x, sort, text) != 0) {
            throw new IllegalStateException("no text: " + text + ", fault " + x.fault(0) + " at " + x.fault(1));
        }
        return x;
    }
}
