import java.util.ArrayList;
import java.util.Collections;
import java.util.Comparator;
import java.util.List;
import java.util.Random;

/** Texts made by chance (always the same ones), the class's answers against those of the model. */
public final class ModelTests {
    private static final Check CHECK = new Check("ModelTests");
    private static final int NONE = GriefTram.NONE;
    private static final int IT = 1;
    private static final String[] OTHERS = {
        "hill 7;hill 8;rider shame 9;rider love 2;rider loss 5;rider loss 5;rider false 6;seats 5;wear loss 4;fare 1 6;",
        "board 0 1;go;share;board 1 0;joke 2;off 1;back;",
        "need 3;come 1 2;come 4 9;come 11 30;come 23 1;",
        "many 4;climbed 15 20;stalled 3 17;"};
    private static final Random RANDOM = new Random(20261118);

    public static void main(String[] args) {
        for (int i = 0; i < 20000; i++) {
            texts();
        }
        for (int i = 0; i < 300; i++) {
            lineAndSets(i % 2 == 0);
        }
        for (int i = 0; i < 600; i++) {
            rides();
        }
        for (int i = 0; i < 400; i++) {
            flows();
        }
        for (int i = 0; i < 150; i++) {
            sights();
        }
        CHECK.end();
    }

    /** Texts of others come before it and behind it, so that nothing of theirs may be left in its answers. */
    private static void tellAmidOthers(GriefTram x, int sort, String text) {
        String other = OTHERS[sort];
        Check.tell(x, sort, other);
        if (sort == Check.SIGHT) {
            x.fits(0, 0);
        }
        if (Check.tell(x, sort, text) != IT) {
            throw new IllegalStateException(text);
        }
        Check.tellAt(x, sort, other, 0);
    }

    private static int upTo(int n) {
        return RANDOM.nextInt(n + 1);
    }

    private static String kind() {
        return Model.KINDS.get(upTo(3));
    }

    // ---- texts

    private static void texts() {
        int sort = upTo(3);
        StringBuilder text = new StringBuilder();
        int statements = upTo(10) == 0 ? 60 : upTo(12);
        int spoilt = upTo(2) == 0 ? 12 : 400;
        for (int i = 0; i < statements; i++) {
            String[] forms = Model.STATEMENTS[upTo(40) == 0 ? upTo(3) : sort];
            String[] form = forms[upTo(forms.length - 1)].split(" ");
            for (String part : form) {
                text.append(upTo(9) == 0 ? "\n " : " ").append(part(part, spoilt));
            }
            text.append(upTo(spoilt) == 0 ? "" : ";");
        }
        String tape = text.length() > 600 ? text.substring(0, 600) : text.toString();
        if (upTo(3) != 0) {
            tape = tape.replace("; ", ";");
        }
        tape = spoil(tape, spoilt);
        Model.Text want = Model.read(sort, tape);
        GriefTram x = new GriefTram();
        CHECK.due("text of " + sort + ": " + tape, Check.tell(x, sort, tape), want.fault == 0 ? 0 : NONE);
        CHECK.due("fault of " + sort + ": " + tape, x.fault(0), want.fault);
        CHECK.due("place of " + sort + ": " + tape, x.fault(1), want.place);
    }

    private static String part(String part, int spoilt) {
        if (part.equals("KIND")) {
            return kind();
        }
        if (!part.contains("-")) {
            return part;
        }
        String[] ends = part.split("-");
        int low = Integer.parseInt(ends[0]);
        int high = Integer.parseInt(ends[1]);
        if (upTo(spoilt * 2) == 0) {
            return "" + (low > 0 && upTo(1) == 0 ? low - 1 : high + 1);
        }
        int n = upTo(4) == 0 ? low : upTo(4) == 0 ? high : low + upTo(high - low);
        return n < 10 && upTo(5) == 0 ? "0" + n : "" + n;
    }

    private static String spoil(String tape, int spoilt) {
        if (tape.isEmpty() || upTo(spoilt / 3) != 0) {
            return tape;
        }
        int at = upTo(tape.length() - 1);
        String signs = "a;0 \n9zA\u0000\u00ff\t";
        char sign = signs.charAt(upTo(signs.length() - 1));
        switch (upTo(2)) {
            case 0: return tape.substring(0, at) + sign + tape.substring(at + 1);
            case 1: return tape.substring(0, at) + tape.substring(at + 1);
            default: return tape.substring(0, at);
        }
    }

    // ---- lines

    private static String lineText(boolean mild) {
        StringBuilder text = new StringBuilder();
        int hills = upTo(9) == 0 ? 0 : upTo(mild ? 3 : 6);
        int riders = upTo(9) == 0 ? upTo(1) : 2 + upTo(mild ? 3 : 6);
        int height = upTo(4) == 0 ? 2 : upTo(3) == 0 ? 99 : 30;
        int weight = upTo(3) == 0 ? 3 : upTo(3) == 0 ? 60 : 15;
        for (int k = 0; k < hills; k++) {
            text.append("hill ").append(upTo(height)).append(';');
        }
        for (int r = 0; r < riders; r++) {
            text.append("rider ").append(kind()).append(' ').append(upTo(weight)).append(';');
        }
        if (upTo(3) != 0) {
            text.append("seats ").append(1 + upTo(5)).append(';');
        }
        for (int i = upTo(4); i > 0; i--) {
            text.append("wear ").append(kind()).append(' ').append(upTo(upTo(2) == 0 ? 9 : 2)).append(';');
        }
        for (int i = upTo(6); i > 0; i--) {
            text.append("fare ").append(1 + upTo(7)).append(' ').append(upTo(12)).append(';');
        }
        return text.toString();
    }

    private static void lineAndSets(boolean mild) {
        String text = lineText(mild);
        GriefTram x = new GriefTram();
        tellAmidOthers(x, Check.LINE, text);
        Model.Line line = new Model.Line(Model.read(0, text));
        lineItself(text, x, line);
        allSets(text, x, line);
        for (int set = -1; set <= 1 << line.riders(); set++) {
            if (mild || upTo(6) == 0) {
                oneSet(text, x, line, set);
            }
        }
    }

    private static void lineItself(String text, GriefTram x, Model.Line line) {
        int hills = line.hills.size();
        for (int from = -1; from <= hills + 1; from++) {
            for (int to = -1; to <= hills + 1; to++) {
                boolean can = from >= 0 && to > from && to <= hills;
                List<int[]> ways = new ArrayList<>();
                int loop = to;
                if (can) {
                    line.tickets(to - from, 0, 0, ways);
                    ways.sort((a, b) -> a[0] != b[0] ? a[0] - b[0] : a[1] - b[1]);
                    for (int t = hills; t >= to; t--) {
                        loop = line.fares[t - from] <= line.fares[loop - from] ? t : loop;
                    }
                    loop = first(line, from, to, line.fares[loop - from]);
                }
                CHECK.due("fare 0 of " + text, x.fare(IT, from, to, 0), can ? ways.get(0)[0] : NONE);
                CHECK.due("fare 1 of " + text, x.fare(IT, from, to, 1), can ? ways.get(0)[1] : NONE);
                CHECK.due("fare 2 of " + text, x.fare(IT, from, to, 2), can ? loop : NONE);
            }
        }
        List<Integer> route = new ArrayList<>();
        for (int k = 0; k < hills; k++) {
            route.add(k);
        }
        route.sort(Comparator.comparing((Integer k) -> -line.hills.get(k)).thenComparing(k -> k));
        for (int k = 0; k < hills; k++) {
            CHECK.due("route " + k + " of " + text, x.route(IT, k), route.get(k));
        }
    }

    private static int first(Model.Line line, int from, int to, int fare) {
        for (int t = to; t <= line.hills.size(); t++) {
            if (line.fares[t - from] == fare) {
                return t;
            }
        }
        return NONE;
    }

    private static void allSets(String text, GriefTram x, Model.Line line) {
        int light = line.bestUp(true);
        CHECK.due("few of " + text, x.up(IT, 0), line.bestUp(false));
        CHECK.due("light of " + text, x.up(IT, 1), light);
        CHECK.due("its ounces of " + text, x.up(IT, 2), light < 0 ? NONE : line.sum(light));
        if (line.riders() <= 7) {
            CHECK.due("trams of " + text, x.up(IT, 3), line.trams(0, new ArrayList<>()));
        }
        CHECK.due("needed of " + text, x.up(IT, 4), line.needed());
        int many = 0;
        int[] stalled = new int[9];
        int half = NONE;
        int difference = NONE;
        int all = (1 << line.riders()) - 1;
        for (int set = 0; set <= all; set++) {
            many += line.up(set) ? 1 : 0;
            if (line.seated(set)) {
                stalled[line.comes(set, 0, line.first(), line.hills)]++;
            }
            int d = Math.abs(line.sum(set) - line.sum(all - set));
            if ((set & 1) == 1 && set != all && line.up(set) && line.up(all - set) && (half < 0 || d < difference)) {
                half = set;
                difference = d;
            }
        }
        int worst = NONE;
        for (int k = line.hills.size() - 1; k >= 0; k--) {
            worst = stalled[k] > 0 && (worst < 0 || stalled[k] >= stalled[worst]) ? k : worst;
        }
        CHECK.due("many of " + text, x.sets(IT, 0), many);
        CHECK.due("worst of " + text, x.sets(IT, 1), worst);
        CHECK.due("at worst of " + text, x.sets(IT, 2), worst < 0 ? NONE : stalled[worst]);
        CHECK.due("half of " + text, x.halves(IT, true), half);
        CHECK.due("difference of " + text, x.halves(IT, false), difference);
        for (int k = -1; k <= line.hills.size(); k++) {
            int best = NONE;
            for (int set = all; set >= 0 && k >= 0 && k < line.hills.size(); set--) {
                boolean does = line.seated(set) && line.pull(set, line.first()) >= line.hills.get(k);
                if (does && (best < 0 || Integer.bitCount(set) <= Integer.bitCount(best))) {
                    best = set;
                }
            }
            CHECK.due("against " + k + " of " + text, x.against(IT, k), best);
        }
    }

    private static void oneSet(String text, GriefTram x, Model.Line line, int set) {
        String of = " of " + set + " of " + text;
        boolean there = line.there(set);
        boolean seated = line.seated(set);
        boolean up = line.up(set);
        for (int from = -1; from <= line.hills.size() + 1; from++) {
            boolean can = there && from >= 0 && from <= line.hills.size();
            int want = can ? line.comes(set, from, line.first(), line.hills) : NONE;
            CHECK.due("comes from " + from + of, x.comes(IT, set, from), want);
        }
        left(of, x, line, set);
        CHECK.due("rounds" + of, x.rounds(IT, set), seated ? line.turns(set) : NONE);
        int other = (there ? ~set : 0) & upTo((1 << line.riders()) - 1);
        boolean two = seated && line.seated(other);
        CHECK.due("turns with " + other + of, x.byTurns(IT, set, other), two ? line.turns(set, other) : NONE);
        int plea = NONE;
        int news = NONE;
        int spared = up ? 0 : NONE;
        for (int n = 99; n >= 0; n--) {
            plea = seated && line.upChanged(set, n) ? n : plea;
            news = up && n > 0 && !line.upChanged(set, -n) ? n : news;
        }
        for (int r = 0; r < line.riders(); r++) {
            spared |= up && (set >> r & 1) == 1 && line.up(set - (1 << r)) ? 1 << r : 0;
        }
        CHECK.due("plea" + of, x.plea(IT, set), plea);
        CHECK.due("news" + of, x.news(IT, set), news);
        CHECK.due("spared" + of, x.spared(IT, set), spared);
        slack(of, x, line, set);
        if (line.hills.size() <= 5) {
            CHECK.due("orders" + of, x.orders(IT, set), seated ? line.orders(set) : NONE);
        }
        calm(of, x, line, set);
        List<Integer> couples = new ArrayList<>();
        if (there && set != 0 && Integer.bitCount(set) % 2 == 0) {
            line.couples(set, 0, couples);
        }
        int least = couples.isEmpty() ? NONE : Collections.min(couples);
        int ways = couples.isEmpty() ? NONE : Collections.frequency(couples, least);
        CHECK.due("couples" + of, x.couples(IT, set, false), least);
        CHECK.due("ways of couples" + of, x.couples(IT, set, true), ways);
    }

    private static void left(String of, GriefTram x, Model.Line line, int set) {
        int[] has = line.first();
        if (line.there(set)) {
            line.comes(set, 0, has, line.hills);
        }
        int last = NONE;
        for (int r = 8; r >= -3; r--) {
            boolean in = line.there(set) && r >= 0 && (set >> r & 1) == 1;
            last = in && (last < 0 || has[r] <= has[last]) ? r : last;
            if (r != NONE) {
                CHECK.due("bears " + r + of, x.bears(IT, set, r), in ? has[r] : -2);
            }
        }
        CHECK.due("last" + of, x.bears(IT, set, NONE), line.there(set) ? last : -2);
    }

    private static void slack(String of, GriefTram x, Model.Line line, int set) {
        int at = NONE;
        int least = NONE;
        int[] has = line.first();
        for (int k = 0; line.up(set) && k < line.hills.size(); k++) {
            int over = line.pull(set, has) - line.hills.get(k);
            if (at < 0 || over < least) {
                at = k;
                least = over;
            }
            line.wearOff(set, has);
        }
        CHECK.due("slack" + of, x.slack(IT, set, false), least);
        CHECK.due("hill of slack" + of, x.slack(IT, set, true), at);
    }

    private static void calm(String of, GriefTram x, Model.Line line, int set) {
        int k = upTo(9);
        boolean can = line.seated(set) && set != 0;
        List<Integer> want = can ? line.calm(set, k) : List.of(NONE, NONE);
        CHECK.due("calm " + k + of, x.calm(IT, set, k, 0), want.get(0));
        CHECK.due("ways of calm " + k + of, x.calm(IT, set, k, 1), want.get(1));
        for (int s = 0; s < 7; s++) {
            int due = s + 2 < want.size() ? want.get(s + 2) : NONE;
            CHECK.due("seat " + s + " of calm " + k + of, x.calm(IT, set, k, 10 + s), due);
        }
    }

    // ---- rides

    private static void rides() {
        String text = lineText(true);
        GriefTram x = new GriefTram();
        tellAmidOthers(x, Check.LINE, text);
        Model.Line line = new Model.Line(Model.read(0, text));
        StringBuilder rideText = new StringBuilder();
        Model.Tram tram = new Model.Tram(line);
        for (int i = upTo(40); i > 0; i--) {
            String[] row = deed();
            // mostly deeds that can be, so that rides get far
            for (int again = 0; again < 12 && !canDo(line, rideText + String.join(" ", row) + ";"); again++) {
                row = deed();
            }
            rideText.append(String.join(" ", row)).append(';');
        }
        tellAmidOthers(x, Check.RIDE, rideText.toString());
        List<String[]> rows = Model.read(1, rideText.toString()).rows;
        int done = 0;
        states(text + rideText, tram, x, 0);
        while (done < rows.size() && tram.deed(rows.get(done))) {
            done++;
            states(text + rideText, tram, x, done);
        }
        CHECK.due("stop of " + text + rideText, x.stop(IT, IT), done);
        CHECK.due("behind stop of " + text + rideText, x.state(IT, IT, done + 1, 0), -2);
        int seed = RANDOM.nextInt();
        for (int n = 0; n <= 60; n += 1 + upTo(9)) {
            Model.Tram drawn = new Model.Tram(line);
            if (line.riders() > 0) {
                drawn.draw(seed, n);
            }
            for (int what = -1; what < 42; what++) {
                int want = line.riders() == 0 ? -2 : drawn.answer(what);
                CHECK.due("drawn " + seed + " " + n + " " + what + " of " + text, x.drawn(IT, seed, n, what), want);
            }
        }
    }

    private static String[] deed() {
        String[] row = Model.STATEMENTS[1][upTo(7)].split(" ");
        for (int i = 1; i < row.length; i++) {
            row[i] = part(row[i].equals("0-7") ? "0-4" : row[i], 1000000);
        }
        return row;
    }

    private static boolean canDo(Model.Line line, String ride) {
        Model.Tram tram = new Model.Tram(line);
        for (String[] row : Model.read(1, ride).rows) {
            if (!tram.deed(row)) {
                return false;
            }
        }
        return true;
    }

    private static void states(String text, Model.Tram tram, GriefTram x, int n) {
        for (int what = -1; what < 42; what++) {
            CHECK.due("state " + n + " " + what + " of " + text, x.state(IT, IT, n, what), tram.answer(what));
        }
    }

    // ---- flows and sights

    private static void flows() {
        StringBuilder text = new StringBuilder();
        int need = 4 + upTo(20);
        text.append("need ").append(need).append(';');
        int trams = 5;
        int left = need * trams;
        for (int i = upTo(16); i > 0; i--) {
            int n = upTo(Math.min(left, upTo(2) == 0 ? 2 : need));
            left -= n;
            text.append("come ").append(upTo(23)).append(' ').append(n).append(';');
        }
        GriefTram x = new GriefTram();
        tellAmidOthers(x, Check.FLOW, text.toString());
        Model.Flow flow = new Model.Flow(Model.read(2, text.toString()));
        List<Integer> want = flow.leaves();
        CHECK.due("most of " + text, x.leaves(IT, 0), want.get(0));
        CHECK.due("wait of " + text, x.leaves(IT, 1), want.get(1));
        for (int k = 0; k < 25; k++) {
            CHECK.due("hour " + k + " of " + text, x.leaves(IT, 10 + k), k + 2 < want.size() ? want.get(k + 2) : NONE);
        }
        int rush = 23;
        int day = 0;
        int lull = 0;
        int steady = NONE;
        for (int h = 23; h >= 0; h--) {
            day += flow.come[h];
            rush = flow.come[h] >= flow.come[rush] ? h : rush;
        }
        for (int many = 24; many >= 1; many--) {
            boolean all = true;
            for (int from = 0; from + many <= 24; from++) {
                int sum = 0;
                for (int h = from; h < from + many; h++) {
                    sum += flow.come[h];
                }
                all &= sum >= flow.need;
                lull = sum == 0 ? Math.max(lull, many) : lull;
            }
            steady = all ? many : steady;
        }
        int half = 0;
        for (int have = flow.come[0]; have + have < day; have += flow.come[half]) {
            half++;
        }
        int[] due = {flow.need, rush, steady, lull, day, half};
        for (int what = 0; what < 6; what++) {
            CHECK.due("flow " + what + " of " + text, x.flow(IT, what), due[what]);
        }
    }

    private static void sights() {
        StringBuilder text = new StringBuilder();
        int many = 1 + upTo(upTo(3) == 0 ? 3 : 2);
        text.append("many ").append(many).append(';');
        int[] truth = {upTo(9), upTo(9), upTo(9), upTo(9)};
        for (int i = upTo(7); i > 0; i--) {
            int set = 1 + upTo((1 << many) - 2);
            int hill = 1 + upTo(9 * Integer.bitCount(set) - 1);
            int sum = 0;
            for (int s = 0; s < many; s++) {
                sum += (set >> s & 1) * truth[s];
            }
            boolean climbed = upTo(30) == 0 ? upTo(1) == 0 : sum >= hill;
            text.append(climbed ? "climbed " : "stalled ").append(set).append(' ').append(hill).append(';');
        }
        GriefTram x = new GriefTram();
        tellAmidOthers(x, Check.SIGHT, text.toString());
        int[] want = Model.fits(Model.read(3, text.toString()));
        CHECK.due("fits of " + text, x.fits(IT, 0), want[0]);
        CHECK.due("ask of " + text, x.fits(IT, 1), want[1]);
        for (int s = 0; s < 5; s++) {
            CHECK.due("least " + s + " of " + text, x.fits(IT, 10 + s), s < many ? want[2 + s] : -2);
            CHECK.due("most " + s + " of " + text, x.fits(IT, 20 + s), s < many ? want[2 + many + s] : -2);
        }
    }
}
