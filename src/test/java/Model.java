import java.util.ArrayList;
import java.util.Arrays;
import java.util.List;
import java.util.regex.Matcher;
import java.util.regex.Pattern;

/** The document's terms once more, by trying everything out, for comparison with the class. */
final class Model {
    static final String[][] STATEMENTS = {
        {"hill 0-99", "seats 1-6", "rider KIND 0-60", "wear KIND 0-9", "fare 1-8 0-99"},
        {"board 0-7 0-5", "move 0-7 0-5", "off 0-7", "tell 1-9", "joke 1-9", "go", "share", "back"},
        {"need 1-99", "come 0-23 0-99"},
        {"many 1-4", "climbed 1-15 1-36", "stalled 1-15 1-36"}};
    static final List<String> KINDS = List.of("loss", "love", "shame", "false");

    /** A text read: its statements as rows of words, or its fault. */
    static final class Text {
        int fault;
        int place = -1;
        final List<String[]> rows = new ArrayList<>();
    }

    static Text read(int sort, String tape) {
        List<String> tokens = new ArrayList<>();
        List<Integer> places = new ArrayList<>();
        Matcher m = Pattern.compile("[a-z]+|[0-9]+|[^ \n]", Pattern.DOTALL).matcher(tape);
        while (m.find()) {
            tokens.add(m.group());
            places.add(m.start());
        }
        tokens.add("END");
        places.add(tape.length());
        Text text = new Text();
        List<int[]> lesser = new ArrayList<>();
        int at = 0;
        while (!tokens.get(at).equals("END")) {
            String[] form = null;
            for (String candidate : STATEMENTS[sort]) {
                if (candidate.split(" ")[0].equals(tokens.get(at))) {
                    form = candidate.split(" ");
                }
            }
            int from = at;
            boolean good = form != null;
            for (int i = 1; good && i < form.length; i++) {
                at++;
                String token = tokens.get(at);
                if (form[i].equals("KIND")) {
                    good = KINDS.contains(token);
                } else {
                    good = token.matches("[0-9]{1,2}");
                    if (good && !inside(form[i], Integer.parseInt(token))) {
                        lesser.add(new int[] {places.get(at), 2});
                    }
                }
            }
            if (good) {
                at++;
                good = tokens.get(at).equals(";");
            }
            if (!good) {
                text.fault = 1;
                text.place = places.get(at);
                return text;
            }
            text.rows.add(tokens.subList(from, at).toArray(new String[0]));
            String group = group(tokens.get(from));
            if (text.rows.stream().filter(r -> group(r[0]).equals(group)).count() > most(group)) {
                lesser.add(new int[] {places.get(from), 3});
            }
            at++;
        }
        lesser.sort((a, b) -> a[0] != b[0] ? a[0] - b[0] : a[1] - b[1]);
        if (!lesser.isEmpty()) {
            text.place = lesser.get(0)[0];
            text.fault = lesser.get(0)[1];
            return text;
        }
        if (sort == 3) {
            int many = 2;
            int members = 0;
            for (String[] row : text.rows) {
                if (row[0].equals("many")) {
                    many = Integer.parseInt(row[1]);
                } else {
                    members |= Integer.parseInt(row[1]);
                }
            }
            if (members >> many != 0) {
                text.fault = 4;
                text.place = tape.length();
            }
        }
        return text;
    }

    private static boolean inside(String range, int n) {
        String[] ends = range.split("-");
        return n >= Integer.parseInt(ends[0]) && n <= Integer.parseInt(ends[1]);
    }

    private static String group(String word) {
        if (Arrays.asList("climbed", "stalled").contains(word)) {
            return "fact";
        }
        for (String deed : STATEMENTS[1]) {
            if (deed.split(" ")[0].equals(word)) {
                return "deed";
            }
        }
        return word;
    }

    private static int most(String group) {
        switch (group) {
            case "hill": case "rider": return 8;
            case "deed": return 40;
            case "fact": return 10;
            default: return Integer.MAX_VALUE;
        }
    }

    // ---- a line

    static final class Line {
        final List<Integer> hills = new ArrayList<>();
        final List<Integer> kinds = new ArrayList<>();
        final List<Integer> ounces = new ArrayList<>();
        int seats = 4;
        final int[] wear = {1, 1, 1, 1};
        final int[] fares = {0, 1, 2, 3, 4, 5, 6, 7, 8};

        Line(Text text) {
            for (String[] r : text.rows) {
                switch (r[0]) {
                    case "hill": hills.add(Integer.parseInt(r[1])); break;
                    case "seats": seats = Integer.parseInt(r[1]); break;
                    case "rider": kinds.add(KINDS.indexOf(r[1])); ounces.add(Integer.parseInt(r[2])); break;
                    case "wear": wear[KINDS.indexOf(r[1])] = Integer.parseInt(r[2]); break;
                    default: fares[Integer.parseInt(r[1])] = Integer.parseInt(r[2]); break;
                }
            }
        }

        int riders() {
            return kinds.size();
        }

        int pull(int r, int has) {
            return kinds.get(r) == 0 ? has : kinds.get(r) == 1 ? has + has : kinds.get(r) == 2 ? has >> 1 : 0;
        }

        int pull(int set, int[] has) {
            int sum = 0;
            for (int r = 0; r < riders(); r++) {
                sum += (set >> r & 1) * pull(r, has[r]);
            }
            return sum;
        }

        int[] first() {
            return ounces.stream().mapToInt(i -> i).toArray();
        }

        void wearOff(int set, int[] has) {
            for (int r = 0; r < riders(); r++) {
                if ((set >> r & 1) == 1) {
                    has[r] = has[r] < wear[kinds.get(r)] ? 0 : has[r] - wear[kinds.get(r)];
                }
            }
        }

        int comes(int set, int from, int[] has, List<Integer> heights) {
            int at = from;
            while (at < heights.size() && pull(set, has) >= heights.get(at)) {
                wearOff(set, has);
                at++;
            }
            return at;
        }

        boolean there(int set) {
            return set >= 0 && set >> riders() == 0;
        }

        boolean seated(int set) {
            return there(set) && Integer.bitCount(set) <= seats;
        }

        boolean up(int set) {
            return seated(set) && comes(set, 0, first(), hills) == hills.size();
        }

        boolean upChanged(int set, int n) {
            int[] has = first();
            for (int r = 0; r < has.length; r++) {
                has[r] = Math.max(0, Math.min(99, has[r] + n));
            }
            return seated(set) && comes(set, 0, has, hills) == hills.size();
        }

        int sum(int set) {
            int sum = 0;
            for (int r = 0; r < riders(); r++) {
                sum += (set >> r & 1) * ounces.get(r);
            }
            return sum;
        }

        /** Of the sets that pass, the one with the least key, then the least number. */
        int bestUp(boolean light) {
            int best = -1;
            for (int set = (1 << riders()) - 1; set >= 0; set--) {
                if (up(set)) {
                    int key = light ? sum(set) : Integer.bitCount(set);
                    int old = best < 0 ? Integer.MAX_VALUE : light ? sum(best) : Integer.bitCount(best);
                    if (key <= old) {
                        best = set;
                    }
                }
            }
            return best;
        }

        /** Puts rider after rider into no tram, one of the trams, or a new one. */
        int trams(int rider, List<Integer> trams) {
            if (rider == riders()) {
                return (int) trams.stream().filter(this::up).count();
            }
            int best = trams(rider + 1, trams);
            for (int i = 0; i < trams.size(); i++) {
                int old = trams.get(i);
                trams.set(i, old | 1 << rider);
                best = Math.max(best, trams(rider + 1, trams));
                trams.set(i, old);
            }
            trams.add(1 << rider);
            best = Math.max(best, trams(rider + 1, trams));
            trams.remove(trams.size() - 1);
            return best;
        }

        int needed() {
            int needed = 0;
            for (int r = 0; r < riders(); r++) {
                boolean some = false;
                for (int set = 0; set < 1 << riders(); set++) {
                    some |= (set >> r & 1) == 0 && up(set);
                }
                needed |= some ? 0 : 1 << r;
            }
            return needed;
        }

        int turns(int... sets) {
            int[] has = first();
            int done = 0;
            while (done < 100 && comes(sets[done % sets.length], 0, has, hills) == hills.size()) {
                done++;
            }
            return done;
        }

        long orders(int set) {
            return orders(set, new ArrayList<>(), new boolean[hills.size()]);
        }

        private long orders(int set, List<Integer> order, boolean[] used) {
            if (order.size() == hills.size()) {
                return comes(set, 0, first(), order) == order.size() ? 1 : 0;
            }
            long sum = 0;
            for (int k = 0; k < used.length; k++) {
                if (!used[k]) {
                    used[k] = true;
                    order.add(hills.get(k));
                    sum += orders(set, order, used);
                    order.remove(order.size() - 1);
                    used[k] = false;
                }
            }
            return sum;
        }

        /** Each order with its greatest ounces: least, ways, first order. */
        List<Integer> calm(int set, int k) {
            List<List<Integer>> orders = new ArrayList<>();
            permute(set, new ArrayList<>(), orders);
            int least = Integer.MAX_VALUE;
            int ways = 0;
            List<Integer> first = null;
            for (List<Integer> order : orders) {
                int[] seat = order.stream().mapToInt(ounces::get).toArray();
                for (int n = 0; n < k; n++) {
                    for (int s = 1; s < seat.length; s++) {
                        if (Math.abs(seat[s] - seat[s - 1]) >= 2) {
                            int sign = Integer.signum(seat[s] - seat[s - 1]);
                            seat[s] -= sign;
                            seat[s - 1] += sign;
                        }
                    }
                }
                int greatest = Arrays.stream(seat).max().getAsInt();
                if (greatest < least) {
                    least = greatest;
                    ways = 0;
                    first = order;
                }
                ways += greatest == least ? 1 : 0;
            }
            List<Integer> all = new ArrayList<>(List.of(least, ways));
            all.addAll(first);
            return all;
        }

        private void permute(int set, List<Integer> order, List<List<Integer>> out) {
            if (set == 0) {
                out.add(new ArrayList<>(order));
            }
            for (int r = 0; r < riders(); r++) {
                if ((set >> r & 1) == 1) {
                    order.add(r);
                    permute(set & ~(1 << r), order, out);
                    order.remove(order.size() - 1);
                }
            }
        }

        /** Of all ways to couple them: the greatest of each. */
        void couples(int set, int greatest, List<Integer> out) {
            if (set == 0) {
                out.add(greatest);
                return;
            }
            int one = Integer.numberOfTrailingZeros(set);
            for (int other = one + 1; other < riders(); other++) {
                if ((set >> other & 1) == 1) {
                    int both = ounces.get(one) + ounces.get(other);
                    couples(set - (1 << one) - (1 << other), Math.max(greatest, both - both / 2), out);
                }
            }
        }

        /** All ways of tickets: {fares, how many}. */
        void tickets(int hillsLeft, int cost, int many, List<int[]> out) {
            if (hillsLeft == 0) {
                out.add(new int[] {cost, many});
            }
            for (int n = 1; n <= hillsLeft; n++) {
                tickets(hillsLeft - n, cost + fares[n], many + 1, out);
            }
        }
    }

    // ---- a tram under way

    static final class Tram {
        final Line line;
        final int[] has;
        final Integer[] row;
        int stop;
        int stalls;
        int firstStall = -1;
        int climbed;

        Tram(Line line) {
            this.line = line;
            has = line.first();
            row = new Integer[line.seats];
        }

        int seatOf(int rider) {
            return Arrays.asList(row).indexOf(rider);
        }

        int aboard() {
            int set = 0;
            for (Integer rider : row) {
                set |= rider == null ? 0 : 1 << rider;
            }
            return set;
        }

        boolean free(int seat) {
            return seat < row.length && row[seat] == null;
        }

        void share() {
            for (int s = 0; s < row.length - 1; s++) {
                if (row[s] != null && row[s + 1] != null) {
                    int d = has[row[s]] - has[row[s + 1]];
                    if (d * d >= 4) {
                        has[row[s]] -= d / Math.abs(d);
                        has[row[s + 1]] += d / Math.abs(d);
                    }
                }
            }
        }

        void go() {
            if (line.pull(aboard(), has) < line.hills.get(stop)) {
                stalls++;
                firstStall = firstStall < 0 ? stop : firstStall;
            } else {
                line.wearOff(aboard(), has);
                stop++;
                climbed++;
            }
        }

        boolean deed(String[] r) {
            int a = r.length > 1 ? Integer.parseInt(r[1]) : -1;
            int b = r.length > 2 ? Integer.parseInt(r[2]) : -1;
            boolean can;
            switch (r[0]) {
                case "board":
                    can = a < line.riders() && seatOf(a) < 0 && free(b);
                    if (can) {
                        row[b] = a;
                    }
                    return can;
                case "move":
                    can = seatOf(a) >= 0 && free(b);
                    if (can) {
                        row[seatOf(a)] = null;
                        row[b] = a;
                    }
                    return can;
                case "off":
                    can = seatOf(a) >= 0;
                    if (can) {
                        row[seatOf(a)] = null;
                    }
                    return can;
                case "go":
                    can = stop < line.hills.size();
                    if (can) {
                        go();
                    }
                    return can;
                case "back":
                    can = stop > 0;
                    stop = 0;
                    return can;
                case "share":
                    share();
                    return true;
                default:
                    for (int r1 = 0; r1 < line.riders(); r1++) {
                        if (seatOf(r1) >= 0) {
                            has[r1] = Math.max(0, Math.min(99, has[r1] + (r[0].equals("tell") ? a : -a)));
                        }
                    }
                    return true;
            }
        }

        private long x;

        private int below(int n) {
            x = (x * 1103515245L + 12345L) & 0xffffffffL;
            return (int) ((x >> 16) % n);
        }

        void draw(int seed, int n) {
            x = seed & 0xffffffffL;
            for (int i = 0; i < n; i++) {
                int lot = below(8);
                if (lot < 4) {
                    int rider = below(line.riders());
                    int seat = Arrays.asList(row).indexOf(null);
                    if (lot < 3 && seatOf(rider) < 0 && seat >= 0) {
                        row[seat] = rider;
                    }
                    if (lot == 3 && seatOf(rider) >= 0) {
                        row[seatOf(rider)] = null;
                    }
                } else if (lot == 4) {
                    share();
                } else if (!line.hills.isEmpty() && stop == line.hills.size()) {
                    stop = 0;
                } else if (!line.hills.isEmpty()) {
                    go();
                }
            }
        }

        int answer(int what) {
            if (what >= 10 && what < 10 + line.riders()) {
                return has[what - 10];
            }
            if (what >= 20 && what < 20 + line.riders()) {
                return seatOf(what - 20);
            }
            if (what >= 30 && what < 30 + line.seats) {
                return row[what - 30] == null ? -1 : row[what - 30];
            }
            int smoke = 0;
            for (int r = 0; r < line.riders(); r++) {
                smoke += seatOf(r) >= 0 && line.kinds.get(r) == 3 ? has[r] : 0;
            }
            int[] all = {stop, stalls, firstStall, line.pull(aboard(), has), aboard(), smoke, climbed};
            return what >= 0 && what < all.length ? all[what] : -2;
        }
    }

    // ---- flows

    static final class Flow {
        int need = 10;
        final int[] come = new int[24];

        Flow(Text text) {
            for (String[] r : text.rows) {
                if (r[0].equals("need")) {
                    need = Integer.parseInt(r[1]);
                } else {
                    come[Integer.parseInt(r[1])] = Integer.parseInt(r[2]);
                }
            }
        }

        private int most;
        private int wait;
        private List<Integer> hours;

        /** Tries every row of hours, the first by numbers first: most, wait, hours. */
        List<Integer> leaves() {
            most = -1;
            tryFrom(0, new ArrayList<>());
            List<Integer> all = new ArrayList<>(List.of(most, wait));
            all.addAll(hours);
            return all;
        }

        private void tryFrom(int from, List<Integer> chosen) {
            judge(chosen);
            int waiting = 0;
            for (int h = from; h < 24; h++) {
                waiting += come[h];
                if (waiting >= need) {
                    chosen.add(h);
                    tryFrom(h + 1, chosen);
                    chosen.remove(chosen.size() - 1);
                }
            }
        }

        private void judge(List<Integer> chosen) {
            int sum = 0;
            for (int h = 0; h < 24; h++) {
                int left = 24;
                for (int i = chosen.size() - 1; i >= 0; i--) {
                    left = chosen.get(i) >= h ? chosen.get(i) : left;
                }
                sum += come[h] * (left - h);
            }
            if (chosen.size() > most || chosen.size() == most && sum < wait) {
                most = chosen.size();
                wait = sum;
                hours = new ArrayList<>(chosen);
            }
        }
    }

    // ---- sights

    /** FITS, ASK, then LEAST and MOST of each stranger. */
    static int[] fits(Text text) {
        int many = 2;
        for (String[] r : text.rows) {
            many = r[0].equals("many") ? Integer.parseInt(r[1]) : many;
        }
        int[] out = new int[2 + 2 * many];
        Arrays.fill(out, -1);
        List<int[]> fitting = new ArrayList<>();
        for (int n = 0; n < Math.round(Math.pow(10, many)); n++) {
            int[] bears = new int[many];
            for (int s = 0, rest = n; s < many; s++, rest /= 10) {
                bears[s] = rest % 10;
            }
            boolean fits = true;
            for (String[] r : text.rows) {
                if (!r[0].equals("many")) {
                    boolean climbs = together(bears, Integer.parseInt(r[1])) >= Integer.parseInt(r[2]);
                    fits &= climbs == r[0].equals("climbed");
                }
            }
            if (fits) {
                fitting.add(bears);
            }
        }
        out[0] = fitting.size();
        for (int[] bears : fitting) {
            for (int s = 0; s < many; s++) {
                out[2 + s] = out[2 + s] < 0 ? bears[s] : Math.min(out[2 + s], bears[s]);
                out[2 + many + s] = Math.max(out[2 + many + s], bears[s]);
            }
        }
        long best = Long.MAX_VALUE;
        for (int set = 1; set < 1 << many && !fitting.isEmpty(); set++) {
            for (int hill = 1; hill <= 36; hill++) {
                long climbing = 0;
                for (int[] bears : fitting) {
                    climbing += together(bears, set) >= hill ? 1 : 0;
                }
                long greater = Math.max(climbing, fitting.size() - climbing);
                if (greater < best) {
                    best = greater;
                    out[1] = 40 * set + hill;
                }
            }
        }
        return out;
    }

    private static int together(int[] bears, int set) {
        int sum = 0;
        for (int s = 0; s < bears.length; s++) {
            sum += (set >> s & 1) * bears[s];
        }
        return sum;
    }
}
