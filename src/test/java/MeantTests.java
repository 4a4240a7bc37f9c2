import java.util.List;

/** Each number means its own LINE, RIDE, FLOW, SIGHT, whatever was told or asked besides; asking changes no answer. */
public final class MeantTests {
    private static final Check CHECK = new Check("MeantTests");
    private static final int NONE = GriefTram.NONE;

    private interface Question {
        long ask(GriefTram x, int number);
    }

    private static final String[] LINES = {
        "hill 7;hill 3;hill 9;seats 3;rider loss 9;rider love 4;rider shame 12;rider false 8;rider loss 6;wear love 2;fare 2 1;",
        "hill 2;hill 8;seats 2;rider love 8;rider loss 5;rider loss 2;rider shame 3;wear loss 0;fare 1 4;fare 2 3;",
        "hill 0;hill 0;hill 0;hill 0;rider false 1;rider loss 1;rider loss 4;rider love 2;seats 1;",
        "hill 0;rider loss 0;rider love 0;rider shame 0;rider false 0;"};
    private static final String[] RIDES = {
        "board 0 0;board 1 1;go;share;tell 3;go;off 0;go;back;go;",
        "tell 1;board 2 1;board 0 0;share;share;go;go;joke 2;go;move 2 0;",
        ""};
    private static final String[] FLOWS = {
        "need 7;come 0 3;come 4 5;come 9 9;come 20 4;",
        "need 3;come 1 2;come 2 2;come 3 2;come 4 2;come 23 9;",
        ""};
    private static final String[] SIGHTS = {
        "many 3;climbed 3 9;stalled 5 8;",
        "climbed 1 4;stalled 2 7;stalled 3 13;",
        "many 1;climbed 1 9;stalled 1 9;"};

    public static void main(String[] args) {
        CHECK.by("LINES .. RIDES .. FLOWS .. SIGHTS .., from 0 on");
        pairs(Check.LINE, LINES, LINE_QUESTIONS);
        pairs(Check.FLOW, FLOWS, FLOW_QUESTIONS);
        pairs(Check.SIGHT, SIGHTS, SIGHT_QUESTIONS);
        pairs(Check.RIDE, RIDES, RIDE_QUESTIONS);
        ridesOfLines();
        CHECK.by("nothing is told by asking");
        anotherAskedAhead(Check.LINE, LINES, LINE_QUESTIONS);
        anotherAskedAhead(Check.FLOW, FLOWS, FLOW_QUESTIONS);
        anotherAskedAhead(Check.SIGHT, SIGHTS, SIGHT_QUESTIONS);
        CHECK.end();
    }

    private static final List<Question> LINE_QUESTIONS = List.of(
        (x, line) -> of(0, 70, what -> x.line(line, what)),
        (x, line) -> of(0, 16, set -> x.comes(line, set, 0)),
        (x, line) -> of(0, 5, what -> x.up(line, what)),
        (x, line) -> x.up(line, 3),
        (x, line) -> of(0, 16, set -> x.rounds(line, set)),
        (x, line) -> of(0, 16, set -> x.calm(line, set, 3, 0)),
        (x, line) -> of(0, 13, what -> x.calm(line, 6, 2, what)),
        (x, line) -> of(0, 16, set -> x.couples(line, set, false)),
        (x, line) -> of(0, 16, set -> x.couples(line, set, true)),
        (x, line) -> of(0, 3, what -> x.fare(line, 0, 2, what)),
        (x, line) -> of(0, 3, what -> x.fare(line, 1, 2, what)),
        (x, line) -> of(0, 5, k -> x.route(line, k)),
        (x, line) -> of(0, 61, n -> x.drawn(line, 77, n, 0)),
        (x, line) -> of(0, 36, what -> x.drawn(line, -5, 40, what)),
        (x, line) -> of(0, 16, set -> x.plea(line, set)),
        (x, line) -> of(-1, 5, rider -> x.bears(line, 15, rider)),
        (x, line) -> of(0, 16, set -> x.bears(line, set, NONE)),
        (x, line) -> of(0, 16, set -> x.spared(line, set)),
        (x, line) -> of(0, 5, hill -> x.against(line, hill)),
        (x, line) -> of(0, 3, what -> x.sets(line, what)),
        (x, line) -> of(0, 16, one -> x.byTurns(line, one, one ^ 5)),
        (x, line) -> of(0, 16, one -> x.byTurns(line, one, 1)),
        (x, line) -> of(0, 16, set -> x.news(line, set)),
        (x, line) -> of(0, 16, set -> x.slack(line, set, false)),
        (x, line) -> of(0, 16, set -> x.slack(line, set, true)),
        (x, line) -> of(0, 16, set -> x.orders(line, set)),
        (x, line) -> x.halves(line, false),
        (x, line) -> x.halves(line, true));

    private static final List<Question> FLOW_QUESTIONS = List.of(
        (x, flow) -> of(0, 34, what -> x.flow(flow, what)),
        (x, flow) -> of(0, 20, what -> x.leaves(flow, what)));

    private static final List<Question> SIGHT_QUESTIONS = List.of(
        (x, sight) -> of(0, 30, what -> x.fits(sight, what)),
        (x, sight) -> of(-1, 4, k -> x.fact(sight, k, 0)),
        (x, sight) -> of(-1, 4, k -> x.fact(sight, k, 1)),
        (x, sight) -> of(-1, 4, k -> x.fact(sight, k, 2)));

    private static final List<Question> RIDE_QUESTIONS = List.of(
        (x, ride) -> of(-1, 11, k -> x.deed(ride, k, 0)),
        (x, ride) -> of(-1, 11, k -> x.deed(ride, k, 1)),
        (x, ride) -> of(-1, 11, k -> x.deed(ride, k, 2)));

    private interface Row {
        long at(int n);
    }

    /** A row of answers as one number. */
    private static long of(int low, int high, Row row) {
        long sum = 7;
        for (int n = low; n < high; n++) {
            sum = sum * 1000003 + row.at(n);
        }
        return sum;
    }

    private static void pairs(int sort, String[] texts, List<Question> questions) {
        for (int one = 0; one < texts.length; one++) {
            for (int other = 0; other < texts.length; other++) {
                for (int q = 0; q < questions.size(); q++) {
                    pair(sort, texts[one], texts[other], questions.get(q), "question " + q + " of sort " + sort);
                }
            }
        }
    }

    private static void pair(int sort, String one, String other, Question question, String call) {
        long due = question.ask(Check.with(sort, one), 0);
        long dueOfOther = question.ask(Check.with(sort, other), 0);
        GriefTram x = Check.with(sort, one);
        Check.tell(x, sort, other);
        CHECK.due(call + ", the first", question.ask(x, 0), due);
        CHECK.due(call + ", the second", question.ask(x, 1), dueOfOther);
        CHECK.due(call + ", the first again", question.ask(x, 0), due);
        CHECK.due(call + ", the first once more", question.ask(x, 0), due);
        Check.tellAt(x, sort, one + "!", 1);
        CHECK.due(call + ", the second behind a fault", question.ask(x, 1), dueOfOther);
        Check.tellAt(x, sort, one, 1);
        CHECK.due(call + ", the second told anew", question.ask(x, 1), due);
    }

    /** Rows that two questions share must not carry anything from one to the other. */
    private static void anotherAskedAhead(int sort, String[] texts, List<Question> questions) {
        for (String text : texts) {
            for (int q = 0; q < questions.size(); q++) {
                long due = questions.get(q).ask(Check.with(sort, text), 0);
                for (int ahead = 0; ahead < questions.size(); ahead++) {
                    GriefTram x = Check.with(sort, text);
                    questions.get(ahead).ask(x, 0);
                    CHECK.due("question " + q + " behind " + ahead + " of " + text, questions.get(q).ask(x, 0), due);
                }
            }
        }
    }

    private static void ridesOfLines() {
        for (int l = 0; l < 2; l++) {
            for (int r = 0; r < 2; r++) {
                GriefTram x = Check.withLine(LINES[0]);
                Check.tell(x, Check.LINE, LINES[1]);
                Check.tell(x, Check.RIDE, RIDES[0]);
                Check.tell(x, Check.RIDE, RIDES[1]);
                GriefTram alone = Check.withLine(LINES[l]);
                Check.tell(alone, Check.RIDE, RIDES[r]);
                int line = l;
                int ride = r;
                CHECK.due("stop", x.stop(line, ride), alone.stop(0, 0));
                for (int n = 0; n <= 10; n++) {
                    int behind = n;
                    CHECK.due("state of line " + line + ", ride " + ride + " behind " + n,
                        of(0, 36, what -> x.state(line, ride, behind, what)),
                        of(0, 36, what -> alone.state(0, 0, behind, what)));
                }
            }
        }
    }
}
