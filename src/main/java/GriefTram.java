/** Trams that run on grief: the document's numbered promises say what each call answers. */
public final class GriefTram {

    public static final int NONE = -1;

    private static final int REFUSED = -2;

    private static final int TAPE_ROOM = 600;
    private static final int FED_AT_ONCE = 20;
    private static final int PLACES_OF_A_SORT = 2;
    private static final int IMAGES = 3;

    private static final int LINE_SORT = 0;
    private static final int RIDE_SORT = 1;
    private static final int FLOW_SORT = 2;
    private static final int SIGHT_SORT = 3;
    private static final int SORTS = 4;

    private static final int HILLS_MOST = 8;
    private static final int SEATS_MOST = 6;
    private static final int RIDERS_MOST = 8;
    private static final int SETS_MOST = 256;
    private static final int FARES_MOST = 8;
    private static final int DEEDS_MOST = 40;
    private static final int STRANGERS_MOST = 4;
    private static final int FACTS_MOST = 10;
    private static final int HOURS = 24;

    private static final int KINDS = 4;
    private static final int LOSS = 0;
    private static final int LOVE = 1;
    private static final int SHAME = 2;
    private static final int FALSE_KIND = 3;

    private static final int OUNCES_MOST = 99;
    private static final int TIMES_MOST = 100;
    private static final int SHARES_MOST = 9;
    private static final int DRAWS_MOST = 60;

    private final Told told;
    private final Told[] images;
    private final Reader reader;
    private final Tram tram;
    private final Crew crew;
    private final Yard yard;
    private final Bench bench;
    private final Judge judge;

    public GriefTram() {
        told = new Told();
        images = new Told[IMAGES];
        reader = new Reader();
        tram = new Tram(reader.line);
        crew = new Crew(reader.line);
        yard = new Yard(crew);
        bench = new Bench();
        judge = new Judge();
    }

    // ---- the tape and the texts

    public int feed(int a, int b, int c, int d, int e) {
        if (told.length > TAPE_ROOM - FED_AT_ONCE) {
            return NONE;
        }
        told.putNumber(a);
        told.putNumber(b);
        told.putNumber(c);
        told.putNumber(d);
        told.putNumber(e);
        return told.length;
    }

    public int end(int n) {
        if (n < 0 || n > told.length) {
            return NONE;
        }
        told.length = n;
        return n;
    }

    public int text(int sort, int at) {
        int length = told.length;
        told.length = 0;
        told.fault = 0;
        told.place = NONE;
        if (!told.takesText(sort, at)) {
            return REFUSED;
        }
        reader.read(told.tape, length, sort);
        told.fault = reader.fault;
        told.place = reader.place;
        if (reader.fault != 0) {
            return NONE;
        }
        int number = at == NONE ? told.counts[sort] : at;
        told.put(sort, number, reader);
        return number;
    }

    public int fault(int what) {
        switch (what) {
            case 0: return told.fault;
            case 1: return told.place;
            default: return NONE;
        }
    }

    public int count(int sort) {
        return sort >= 0 && sort < SORTS ? told.counts[sort] : REFUSED;
    }

    public boolean image(int k) {
        if (k < 0 || k >= IMAGES) {
            return false;
        }
        if (images[k] == null) {
            images[k] = new Told();
        }
        images[k].copy(told);
        return true;
    }

    public boolean again(int k) {
        if (k < 0 || k >= IMAGES || images[k] == null) {
            return false;
        }
        told.copy(images[k]);
        return true;
    }

    // ---- lines and rides

    public int line(int line, int what) {
        Line on = lineAt(line);
        return on == null ? NONE : on.answer(what);
    }

    public int deed(int ride, int k, int what) {
        Ride of = rideAt(ride);
        return of == null ? REFUSED : of.answer(k, what);
    }

    public int stop(int line, int ride) {
        Line on = lineAt(line);
        Ride of = rideAt(ride);
        if (on == null || of == null) {
            return NONE;
        }
        tram.begin(on);
        return tram.follow(of, of.deedCount);
    }

    public int state(int line, int ride, int n, int what) {
        Line on = lineAt(line);
        Ride of = rideAt(ride);
        if (on == null || of == null || n < 0 || n > of.deedCount) {
            return REFUSED;
        }
        tram.begin(on);
        return tram.follow(of, n) < n ? REFUSED : tram.answer(what);
    }

    public int drawn(int line, int seed, int n, int what) {
        Line on = lineAt(line);
        if (on == null || on.riderCount == 0 || n < 0 || n > DRAWS_MOST) {
            return REFUSED;
        }
        tram.begin(on);
        tram.draw(seed, n);
        return tram.answer(what);
    }

    public int fare(int line, int from, int to, int what) {
        Line on = lineAt(line);
        if (on == null || from < 0 || to <= from || to > on.hillCount) {
            return NONE;
        }
        switch (what) {
            case 0: return on.cheapest(to - from) / Line.TICKET_BASE;
            case 1: return on.cheapest(to - from) % Line.TICKET_BASE;
            case 2: return on.loophole(from, to);
            default: return NONE;
        }
    }

    public int route(int line, int k) {
        Line on = lineAt(line);
        return on == null ? NONE : on.byHeight(k);
    }

    // ---- sets of riders

    public int comes(int line, int set, int from) {
        Line on = lineAt(line);
        if (on == null || !on.has(set) || from < 0 || from > on.hillCount) {
            return NONE;
        }
        crew.begin(on);
        return crew.climb(set, from);
    }

    public int bears(int line, int set, int rider) {
        Line on = lineAt(line);
        if (on == null || !on.has(set)) {
            return REFUSED;
        }
        if (rider == NONE) {
            return crew.lastLeft(on, set);
        }
        if (rider < 0 || rider >= on.riderCount || !holds(set, rider)) {
            return REFUSED;
        }
        return crew.leftOf(on, set, rider);
    }

    public int rounds(int line, int set) {
        Line on = lineFor(line, set);
        return on == null ? NONE : crew.turns(on, set, set);
    }

    public int byTurns(int line, int one, int other) {
        Line on = lineFor(line, one);
        if (on == null || !on.seatsAll(other) || (one & other) != 0) {
            return NONE;
        }
        return crew.turns(on, one, other);
    }

    public int plea(int line, int set) {
        Line on = lineFor(line, set);
        return on == null ? NONE : crew.leastTold(on, set);
    }

    public int news(int line, int set) {
        Line on = lineFor(line, set);
        return on == null ? NONE : crew.leastJoked(on, set);
    }

    public int spared(int line, int set) {
        Line on = lineFor(line, set);
        return on == null ? NONE : crew.needless(on, set);
    }

    public int slack(int line, int set, boolean hill) {
        Line on = lineFor(line, set);
        return on == null ? NONE : crew.leastOver(on, set, hill);
    }

    public long orders(int line, int set) {
        Line on = lineFor(line, set);
        return on == null ? NONE : crew.hillOrders(on, set);
    }

    public int calm(int line, int set, int k, int what) {
        Line on = lineFor(line, set);
        if (on == null || set == 0 || k < 0 || k > SHARES_MOST) {
            return NONE;
        }
        bench.seatAll(on, set, k);
        return bench.answer(what);
    }

    public int couples(int line, int set, boolean ways) {
        Line on = lineAt(line);
        if (on == null || !on.has(set) || set == 0 || Integer.bitCount(set) % 2 != 0) {
            return NONE;
        }
        int least = bench.leastCoupled(on, set);
        return ways ? bench.waysCoupled(on, set, least) : least;
    }

    public int up(int line, int what) {
        Line on = lineAt(line);
        if (on == null || what < 0 || what > 4) {
            return NONE;
        }
        yard.begin(on);
        switch (what) {
            case 0: return yard.fewest();
            case 1: return yard.lightest();
            case 2: return yard.lightestOunces();
            case 3: return yard.mostTrams();
            default: return yard.needed();
        }
    }

    public int against(int line, int hill) {
        Line on = lineAt(line);
        if (on == null || hill < 0 || hill >= on.hillCount) {
            return NONE;
        }
        return yard.fewestAgainst(on, on.hills[hill]);
    }

    public int sets(int line, int what) {
        Line on = lineAt(line);
        if (on == null || what < 0 || what > 2) {
            return REFUSED;
        }
        yard.begin(on);
        switch (what) {
            case 0: return yard.howManyUp();
            case 1: return yard.worstHill();
            default: return yard.stalledAtWorst();
        }
    }

    public int halves(int line, boolean bits) {
        Line on = lineAt(line);
        if (on == null) {
            return NONE;
        }
        yard.begin(on);
        int tramOfFirst = yard.evenestHalf();
        return bits || tramOfFirst == NONE ? tramOfFirst : yard.difference(tramOfFirst);
    }

    // ---- flows and sights

    public int flow(int flow, int what) {
        Flow of = flowAt(flow);
        return of == null ? NONE : of.answer(what);
    }

    public int leaves(int flow, int what) {
        Flow of = flowAt(flow);
        if (of == null) {
            return NONE;
        }
        of.plan();
        return of.planned(what);
    }

    public int fact(int sight, int k, int what) {
        Sight of = sightAt(sight);
        return of == null ? REFUSED : of.answer(k, what);
    }

    public int fits(int sight, int what) {
        Sight of = sightAt(sight);
        if (of == null) {
            return REFUSED;
        }
        if (!of.judged) {
            judge.weigh(of);
        }
        return of.verdict(what);
    }

    // ---- who is meant

    private Line lineAt(int line) {
        return line >= 0 && line < told.counts[LINE_SORT] ? told.lines[line] : null;
    }

    /** The line, if the whole set is there and has seats in it. */
    private Line lineFor(int line, int set) {
        Line on = lineAt(line);
        return on != null && on.seatsAll(set) ? on : null;
    }

    private Ride rideAt(int ride) {
        return ride >= 0 && ride < told.counts[RIDE_SORT] ? told.rides[ride] : null;
    }

    private Flow flowAt(int flow) {
        return flow >= 0 && flow < told.counts[FLOW_SORT] ? told.flows[flow] : null;
    }

    private Sight sightAt(int sight) {
        return sight >= 0 && sight < told.counts[SIGHT_SORT] ? told.sights[sight] : null;
    }

    private static boolean holds(int set, int member) {
        return (set >> member & 1) != 0;
    }

    private static int within(int n, int low, int high) {
        return Math.max(low, Math.min(high, n));
    }

    private static void fill(int[] row, int value) {
        for (int i = 0; i < row.length; i++) {
            row[i] = value;
        }
    }

    private static void copyRow(int[] from, int[] to) {
        System.arraycopy(from, 0, to, 0, Math.min(from.length, to.length));
    }

    /** One who has two ounces or more more than his neighbour gives him one. */
    private static void evenOut(int[] ounces, int one, int other) {
        int more = ounces[one] - ounces[other];
        if (more >= 2) {
            ounces[one]--;
            ounces[other]++;
        } else if (more <= -2) {
            ounces[one]++;
            ounces[other]--;
        }
    }

    /** All that is told, so that an image is one copy of it. */
    private static final class Told {
        final byte[] tape = new byte[TAPE_ROOM];
        int length;
        int fault;
        int place = NONE;
        final int[] counts = new int[SORTS];
        final Line[] lines = new Line[PLACES_OF_A_SORT];
        final Ride[] rides = new Ride[PLACES_OF_A_SORT];
        final Flow[] flows = new Flow[PLACES_OF_A_SORT];
        final Sight[] sights = new Sight[PLACES_OF_A_SORT];

        Told() {
            for (int i = 0; i < PLACES_OF_A_SORT; i++) {
                lines[i] = new Line();
                rides[i] = new Ride();
                flows[i] = new Flow();
                sights[i] = new Sight();
            }
        }

        void putNumber(int number) {
            for (int shift = 24; shift >= 0 && length < TAPE_ROOM; shift -= 8) {
                tape[length] = (byte) (number >> shift);
                length++;
            }
        }

        boolean takesText(int sort, int at) {
            if (sort < 0 || sort >= SORTS) {
                return false;
            }
            if (at == NONE) {
                return counts[sort] < PLACES_OF_A_SORT;
            }
            return at >= 0 && at < counts[sort];
        }

        void put(int sort, int number, Reader reader) {
            if (sort < 0 || sort >= SORTS || number < 0 || number >= PLACES_OF_A_SORT) {
                return;
            }
            switch (sort) {
                case LINE_SORT: lines[number].copy(reader.line); break;
                case RIDE_SORT: rides[number].copy(reader.ride); break;
                case FLOW_SORT: flows[number].copy(reader.flow); break;
                default: sights[number].copy(reader.sight); break;
            }
            counts[sort] = Math.max(counts[sort], number + 1);
        }

        void copy(Told other) {
            System.arraycopy(other.tape, 0, tape, 0, TAPE_ROOM);
            length = other.length;
            fault = other.fault;
            place = other.place;
            copyRow(other.counts, counts);
            for (int i = 0; i < PLACES_OF_A_SORT; i++) {
                lines[i].copy(other.lines[i]);
                rides[i].copy(other.rides[i]);
                flows[i].copy(other.flows[i]);
                sights[i].copy(other.sights[i]);
            }
        }
    }

    /** A line as told, and what follows from it without anybody riding. */
    private static final class Line {
        /** A price and its tickets are one number, so that the least number is cheapest, then by fewest. */
        static final int TICKET_BASE = 16;

        final int[] hills = new int[HILLS_MOST];
        int hillCount;
        int seats;
        final int[] kinds = new int[RIDERS_MOST];
        final int[] ounces = new int[RIDERS_MOST];
        int riderCount;
        final int[] wear = new int[KINDS];
        final int[] fares = new int[FARES_MOST + 1];
        private final int[] tickets = new int[FARES_MOST + 1];

        Line() {
            clear();
        }

        void clear() {
            hillCount = 0;
            seats = 4;
            riderCount = 0;
            fill(wear, 1);
            for (int n = 0; n <= FARES_MOST; n++) {
                fares[n] = n;
            }
        }

        void copy(Line other) {
            copyRow(other.hills, hills);
            hillCount = other.hillCount;
            seats = other.seats;
            copyRow(other.kinds, kinds);
            copyRow(other.ounces, ounces);
            riderCount = other.riderCount;
            copyRow(other.wear, wear);
            copyRow(other.fares, fares);
        }

        void addHill(int height) {
            if (hillCount < HILLS_MOST) {
                hills[hillCount] = height;
                hillCount++;
            }
        }

        void addRider(int kind, int ouncesOfHis) {
            if (riderCount < RIDERS_MOST) {
                kinds[riderCount] = kind;
                ounces[riderCount] = ouncesOfHis;
                riderCount++;
            }
        }

        boolean has(int set) {
            return set >= 0 && set < 1 << riderCount;
        }

        boolean seatsAll(int set) {
            return has(set) && Integer.bitCount(set) <= seats;
        }

        /** What a rider of this line pulls while he has so many ounces. */
        int pullOf(int rider, int ouncesThen) {
            switch (kinds[rider]) {
                case LOSS: return ouncesThen;
                case LOVE: return 2 * ouncesThen;
                case SHAME: return ouncesThen / 2;
                default: return 0;
            }
        }

        /** What he has left behind one more hill. */
        int wornOf(int rider, int ouncesThen) {
            int worn = wear[kinds[rider]];
            return ouncesThen > worn ? ouncesThen - worn : 0;
        }

        int ouncesOf(int set) {
            int sum = 0;
            for (int r = 0; r < riderCount; r++) {
                if (holds(set, r)) {
                    sum += ounces[r];
                }
            }
            return sum;
        }

        int answer(int what) {
            switch (what) {
                case 0: return hillCount;
                case 1: return seats;
                case 2: return riderCount;
                default: return what < 10 ? NONE : answerOf(what / 10, what % 10);
            }
        }

        private int answerOf(int part, int k) {
            switch (part) {
                case 1: return k < hillCount ? hills[k] : NONE;
                case 2: return k < riderCount ? kinds[k] : NONE;
                case 3: return k < riderCount ? ounces[k] : NONE;
                case 4: return k < KINDS ? wear[k] : NONE;
                case 5: return k >= 1 && k <= FARES_MOST ? fares[k] : NONE;
                case 6: return k < riderCount ? pullOf(k, ounces[k]) : NONE;
                default: return NONE;
            }
        }

        /** The least fares for so many hills, times TICKET_BASE, and the fewest tickets of that. */
        int cheapest(int hillsAhead) {
            int last = within(hillsAhead, 0, FARES_MOST);
            tickets[0] = 0;
            for (int n = 1; n <= last; n++) {
                int least = fares[n] * TICKET_BASE + 1;
                for (int first = 1; first < n; first++) {
                    least = Math.min(least, fares[first] * TICKET_BASE + 1 + tickets[n - first]);
                }
                tickets[n] = least;
            }
            return tickets[last];
        }

        int loophole(int from, int to) {
            int best = to;
            for (int further = to + 1; further <= hillCount; further++) {
                if (fares[further - from] < fares[best - from]) {
                    best = further;
                }
            }
            return best;
        }

        int byHeight(int k) {
            for (int hill = 0; hill < hillCount; hill++) {
                if (rankOf(hill) == k) {
                    return hill;
                }
            }
            return NONE;
        }

        private int rankOf(int hill) {
            int ahead = 0;
            for (int other = 0; other < hillCount; other++) {
                if (hills[other] > hills[hill] || hills[other] == hills[hill] && other < hill) {
                    ahead++;
                }
            }
            return ahead;
        }
    }

    /** A ride as told: deeds with their numbers. */
    private static final class Ride {
        static final int BOARD = 0;
        static final int MOVE = 1;
        static final int OFF = 2;
        static final int TELL = 3;
        static final int JOKE = 4;
        static final int GO = 5;
        static final int SHARE = 6;
        static final int BACK = 7;

        final int[] deeds = new int[DEEDS_MOST];
        final int[] firsts = new int[DEEDS_MOST];
        final int[] seconds = new int[DEEDS_MOST];
        int deedCount;

        void copy(Ride other) {
            copyRow(other.deeds, deeds);
            copyRow(other.firsts, firsts);
            copyRow(other.seconds, seconds);
            deedCount = other.deedCount;
        }

        void addDeed(int deed, int first, int second) {
            if (deedCount < DEEDS_MOST) {
                deeds[deedCount] = deed;
                firsts[deedCount] = first;
                seconds[deedCount] = second;
                deedCount++;
            }
        }

        int answer(int k, int what) {
            if (k == NONE && what == 0) {
                return deedCount;
            }
            if (k < 0 || k >= deedCount) {
                return REFUSED;
            }
            switch (what) {
                case 0: return deeds[k];
                case 1: return firsts[k];
                case 2: return seconds[k];
                default: return REFUSED;
            }
        }
    }

    /** A tram under way: one state behind some deeds. */
    private static final class Tram {
        private Line line;
        private int stop;
        private int stalls;
        private int firstStall;
        private int climbed;
        private int seed;
        private final int[] ounces = new int[RIDERS_MOST];
        private final int[] seatOf = new int[RIDERS_MOST];
        private final int[] sitter = new int[SEATS_MOST];

        Tram(Line line) {
            this.line = line;
        }

        void begin(Line on) {
            line = on;
            stop = 0;
            stalls = 0;
            firstStall = NONE;
            climbed = 0;
            copyRow(on.ounces, ounces);
            fill(seatOf, NONE);
            fill(sitter, NONE);
        }

        /** Does the first n deeds until one can't be: how many it did. */
        int follow(Ride ride, int n) {
            int last = Math.min(n, ride.deedCount);
            for (int k = 0; k < last; k++) {
                if (!perform(ride.deeds[k], ride.firsts[k], ride.seconds[k])) {
                    return k;
                }
            }
            return last;
        }

        private boolean perform(int deed, int first, int second) {
            switch (deed) {
                case Ride.BOARD: return board(first, second);
                case Ride.MOVE: return move(first, second);
                case Ride.OFF: return getOff(first);
                case Ride.TELL: add(first); return true;
                case Ride.JOKE: add(-first); return true;
                case Ride.GO: return go();
                case Ride.SHARE: share(); return true;
                case Ride.BACK: return goBack();
                default: return false;
            }
        }

        private boolean isRider(int rider) {
            return rider >= 0 && rider < line.riderCount;
        }

        private boolean isAboard(int rider) {
            return isRider(rider) && seatOf[rider] != NONE;
        }

        private boolean isFree(int seat) {
            return seat >= 0 && seat < line.seats && sitter[seat] == NONE;
        }

        private boolean board(int rider, int seat) {
            if (!isRider(rider) || seatOf[rider] != NONE || !isFree(seat)) {
                return false;
            }
            seatOf[rider] = seat;
            sitter[seat] = rider;
            return true;
        }

        private boolean move(int rider, int seat) {
            return isAboard(rider) && isFree(seat) && getOff(rider) && board(rider, seat);
        }

        private boolean getOff(int rider) {
            if (!isAboard(rider)) {
                return false;
            }
            int seat = seatOf[rider];
            if (seat >= 0 && seat < SEATS_MOST) {
                sitter[seat] = NONE;
            }
            seatOf[rider] = NONE;
            return true;
        }

        private void add(int n) {
            for (int r = 0; r < line.riderCount; r++) {
                if (isAboard(r)) {
                    ounces[r] = within(ounces[r] + n, 0, OUNCES_MOST);
                }
            }
        }

        private void share() {
            for (int seat = 0; seat + 1 < line.seats; seat++) {
                int one = sitter[seat];
                int other = sitter[seat + 1];
                if (isRider(one) && isRider(other)) {
                    evenOut(ounces, one, other);
                }
            }
        }

        private boolean go() {
            if (stop < 0 || stop >= line.hillCount) {
                return false;
            }
            if (pulls() >= line.hills[stop]) {
                climb();
            } else {
                stall();
            }
            return true;
        }

        private void climb() {
            stop++;
            climbed++;
            for (int r = 0; r < line.riderCount; r++) {
                if (isAboard(r)) {
                    ounces[r] = line.wornOf(r, ounces[r]);
                }
            }
        }

        private void stall() {
            stalls++;
            if (firstStall == NONE) {
                firstStall = stop;
            }
        }

        private boolean goBack() {
            if (stop == 0) {
                return false;
            }
            stop = 0;
            return true;
        }

        void draw(int seedAtFirst, int n) {
            seed = seedAtFirst;
            for (int i = 0; i < n; i++) {
                int lot = below(8);
                if (lot <= 2) {
                    board(below(line.riderCount), leastFreeSeat());
                } else if (lot == 3) {
                    getOff(below(line.riderCount));
                } else if (lot == 4) {
                    share();
                } else if (!go()) {
                    goBack();
                }
            }
        }

        private int below(int n) {
            seed = seed * 1103515245 + 12345;
            return n <= 0 ? 0 : (seed >>> 16) % n;
        }

        private int leastFreeSeat() {
            for (int seat = 0; seat < line.seats; seat++) {
                if (isFree(seat)) {
                    return seat;
                }
            }
            return NONE;
        }

        int answer(int what) {
            switch (what) {
                case 0: return stop;
                case 1: return stalls;
                case 2: return firstStall;
                case 3: return pulls();
                case 4: return aboard();
                case 5: return smoke();
                case 6: return climbed;
                default: return what < 10 ? REFUSED : answerOf(what / 10, what % 10);
            }
        }

        private int answerOf(int part, int k) {
            switch (part) {
                case 1: return isRider(k) ? ounces[k] : REFUSED;
                case 2: return isRider(k) ? seatOf[k] : REFUSED;
                case 3: return k < line.seats ? sitter[k] : REFUSED;
                default: return REFUSED;
            }
        }

        private int pulls() {
            int sum = 0;
            for (int r = 0; r < line.riderCount; r++) {
                if (isAboard(r)) {
                    sum += line.pullOf(r, ounces[r]);
                }
            }
            return sum;
        }

        private int aboard() {
            int set = 0;
            for (int r = 0; r < line.riderCount; r++) {
                if (isAboard(r)) {
                    set |= 1 << r;
                }
            }
            return set;
        }

        private int smoke() {
            int sum = 0;
            for (int r = 0; r < line.riderCount; r++) {
                if (isAboard(r) && line.kinds[r] == FALSE_KIND) {
                    sum += ounces[r];
                }
            }
            return sum;
        }
    }

    /** What one set of riders does, aboard all the way, and what each has left then. */
    private static final class Crew {
        private Line line;
        private final int[] left = new int[RIDERS_MOST];
        private final int[] pullAt = new int[HILLS_MOST];

        Crew(Line line) {
            this.line = line;
        }

        void begin(Line on) {
            line = on;
            copyRow(on.ounces, left);
        }

        private void beginWith(Line on, int more) {
            begin(on);
            for (int r = 0; r < on.riderCount; r++) {
                left[r] = within(left[r] + more, 0, OUNCES_MOST);
            }
        }

        private int pulls(int set) {
            int sum = 0;
            for (int r = 0; r < line.riderCount; r++) {
                if (holds(set, r)) {
                    sum += line.pullOf(r, left[r]);
                }
            }
            return sum;
        }

        private void wearOff(int set) {
            for (int r = 0; r < line.riderCount; r++) {
                if (holds(set, r)) {
                    left[r] = line.wornOf(r, left[r]);
                }
            }
        }

        /** Goes on, as worn as it is, till it stalls: the stop it comes to. */
        int climb(int set, int from) {
            for (int stop = from; stop < line.hillCount; stop++) {
                if (stop < 0 || pulls(set) < line.hills[stop]) {
                    return stop;
                }
                wearOff(set);
            }
            return line.hillCount;
        }

        private boolean getsThere(int set) {
            return climb(set, 0) == line.hillCount;
        }

        boolean getsUp(Line on, int set) {
            begin(on);
            return on.seatsAll(set) && getsThere(set);
        }

        private boolean getsUpWith(Line on, int set, int more) {
            beginWith(on, more);
            return getsThere(set);
        }

        /** How often the two get there by turns till one stalls. */
        int turns(Line on, int one, int other) {
            begin(on);
            for (int done = 0; done < TIMES_MOST; done++) {
                if (!getsThere(done % 2 == 0 ? one : other)) {
                    return done;
                }
            }
            return TIMES_MOST;
        }

        int leftOf(Line on, int set, int rider) {
            begin(on);
            climb(set, 0);
            return rider >= 0 && rider < on.riderCount ? left[rider] : REFUSED;
        }

        int lastLeft(Line on, int set) {
            begin(on);
            climb(set, 0);
            int last = NONE;
            for (int r = 0; r < on.riderCount; r++) {
                if (holds(set, r) && (last == NONE || left[r] < left[last])) {
                    last = r;
                }
            }
            return last;
        }

        int leastTold(Line on, int set) {
            for (int n = 0; n <= OUNCES_MOST; n++) {
                if (getsUpWith(on, set, n)) {
                    return n;
                }
            }
            return NONE;
        }

        int leastJoked(Line on, int set) {
            if (!getsUp(on, set)) {
                return NONE;
            }
            for (int n = 1; n <= OUNCES_MOST; n++) {
                if (!getsUpWith(on, set, -n)) {
                    return n;
                }
            }
            return NONE;
        }

        int needless(Line on, int set) {
            if (!getsUp(on, set)) {
                return NONE;
            }
            int spared = 0;
            for (int r = 0; r < on.riderCount; r++) {
                if (holds(set, r) && getsUp(on, set ^ 1 << r)) {
                    spared |= 1 << r;
                }
            }
            return spared;
        }

        int leastOver(Line on, int set, boolean hill) {
            int at = NONE;
            int least = NONE;
            begin(on);
            for (int k = 0; k < on.hillCount; k++) {
                int over = pulls(set) - on.hills[k];
                if (over < 0) {
                    return NONE;
                }
                if (at == NONE || over < least) {
                    at = k;
                    least = over;
                }
                wearOff(set);
            }
            return hill ? at : least;
        }

        /** It pulls never more than before, so the hills are put from the last place on, where fewest fit. */
        long hillOrders(Line on, int set) {
            begin(on);
            for (int k = 0; k < on.hillCount; k++) {
                pullAt[k] = pulls(set);
                wearOff(set);
            }
            long ways = 1;
            int taken = 0;
            for (int k = on.hillCount - 1; k >= 0; k--) {
                ways *= Math.max(0, hillsUpTo(pullAt[k]) - taken);
                taken++;
            }
            return ways;
        }

        private int hillsUpTo(int pull) {
            int many = 0;
            for (int k = 0; k < line.hillCount; k++) {
                if (line.hills[k] <= pull) {
                    many++;
                }
            }
            return many;
        }
    }

    /** What is asked over all sets of riders of a line. */
    private static final class Yard {
        private final Crew crew;
        private Line line;
        private int all;
        private final boolean[] ups = new boolean[SETS_MOST];
        private final int[] trams = new int[SETS_MOST];
        private final int[] stalled = new int[HILLS_MOST];

        Yard(Crew crew) {
            this.crew = crew;
            this.line = crew.line;
        }

        void begin(Line on) {
            line = on;
            all = (1 << on.riderCount) - 1;
            for (int set = 0; set <= all; set++) {
                ups[set] = crew.getsUp(on, set);
            }
        }

        int fewest() {
            int best = NONE;
            for (int set = 0; set <= all; set++) {
                if (ups[set] && isFewer(set, best)) {
                    best = set;
                }
            }
            return best;
        }

        private static boolean isFewer(int set, int than) {
            return than == NONE || Integer.bitCount(set) < Integer.bitCount(than);
        }

        int lightest() {
            int best = NONE;
            for (int set = 0; set <= all; set++) {
                if (ups[set] && (best == NONE || line.ouncesOf(set) < line.ouncesOf(best))) {
                    best = set;
                }
            }
            return best;
        }

        int lightestOunces() {
            int set = lightest();
            return set == NONE ? NONE : line.ouncesOf(set);
        }

        int mostTrams() {
            trams[0] = 0;
            for (int set = 1; set <= all; set++) {
                int most = 0;
                for (int one = 1; one <= set; one++) {
                    if ((one & set) == one && ups[one]) {
                        most = Math.max(most, 1 + trams[set ^ one]);
                    }
                }
                trams[set] = most;
            }
            return trams[all];
        }

        int needed() {
            int needed = all;
            for (int set = 0; set <= all; set++) {
                if (ups[set]) {
                    needed &= set;
                }
            }
            return needed;
        }

        int howManyUp() {
            int many = 0;
            for (int set = 0; set <= all; set++) {
                if (ups[set]) {
                    many++;
                }
            }
            return many;
        }

        int worstHill() {
            countStalled();
            int worst = NONE;
            for (int k = 0; k < line.hillCount; k++) {
                if (stalled[k] > (worst == NONE ? 0 : stalled[worst])) {
                    worst = k;
                }
            }
            return worst;
        }

        int stalledAtWorst() {
            int worst = worstHill();
            return worst == NONE ? NONE : stalled[worst];
        }

        private void countStalled() {
            fill(stalled, 0);
            for (int set = 0; set <= all; set++) {
                if (line.seatsAll(set)) {
                    crew.begin(line);
                    int stop = crew.climb(set, 0);
                    if (stop >= 0 && stop < line.hillCount) {
                        stalled[stop]++;
                    }
                }
            }
        }

        int fewestAgainst(Line on, int height) {
            int best = NONE;
            crew.begin(on);
            for (int set = 0; set < 1 << on.riderCount; set++) {
                if (on.seatsAll(set) && crew.pulls(set) >= height && isFewer(set, best)) {
                    best = set;
                }
            }
            return best;
        }

        /** The tram that rider 0 is in, so that each parting is looked at once. */
        int evenestHalf() {
            int best = NONE;
            for (int set = 1; set < all; set += 2) {
                if (ups[set] && ups[all ^ set] && (best == NONE || difference(set) < difference(best))) {
                    best = set;
                }
            }
            return best;
        }

        int difference(int set) {
            return Math.abs(line.ouncesOf(set) - line.ouncesOf(all ^ set));
        }
    }

    /** Who is to sit beside whom: orders along the seats, and couples. */
    private static final class Bench {
        private static final int ORDERS_MOST = 720;

        private int size;
        private int least;
        private int ways;
        private final int[] order = new int[SEATS_MOST];
        private final int[] firstOrder = new int[SEATS_MOST];
        private final int[] ounces = new int[RIDERS_MOST];
        private final int[] coupled = new int[SETS_MOST];

        void seatAll(Line line, int set, int shares) {
            sitByNumbers(line, set);
            ways = 0;
            for (int n = 0; n < ORDERS_MOST; n++) {
                int greatest = greatestBehind(line, shares);
                if (ways == 0 || greatest < least) {
                    least = greatest;
                    ways = 0;
                    copyRow(order, firstOrder);
                }
                if (greatest == least) {
                    ways++;
                }
                if (!nextOrder()) {
                    return;
                }
            }
        }

        int answer(int what) {
            switch (what) {
                case 0: return least;
                case 1: return ways;
                default: return what >= 10 && what < 10 + size ? firstOrder[what - 10] : NONE;
            }
        }

        private void sitByNumbers(Line line, int set) {
            size = 0;
            for (int r = 0; r < line.riderCount; r++) {
                if (holds(set, r) && size < SEATS_MOST) {
                    order[size] = r;
                    size++;
                }
            }
        }

        private int greatestBehind(Line line, int shares) {
            copyRow(line.ounces, ounces);
            for (int n = 0; n < shares; n++) {
                for (int seat = 0; seat + 1 < size; seat++) {
                    evenOut(ounces, order[seat], order[seat + 1]);
                }
            }
            int greatest = 0;
            for (int seat = 0; seat < size; seat++) {
                greatest = Math.max(greatest, ounces[order[seat]]);
            }
            return greatest;
        }

        private boolean nextOrder() {
            int turn = size - 2;
            while (turn >= 0 && order[turn] > order[turn + 1]) {
                turn--;
            }
            if (turn < 0) {
                return false;
            }
            int with = size - 1;
            while (with > turn && order[with] < order[turn]) {
                with--;
            }
            swap(turn, with);
            for (int low = turn + 1, high = size - 1; low < high; low++, high--) {
                swap(low, high);
            }
            return true;
        }

        private void swap(int one, int other) {
            int kept = order[one];
            order[one] = order[other];
            order[other] = kept;
        }

        int leastCoupled(Line line, int set) {
            coupled[0] = 0;
            for (int part = 1; part <= set && part < SETS_MOST; part++) {
                if (isEvenPart(part, set)) {
                    coupled[part] = leastOfPart(line, part);
                }
            }
            return set > 0 && set < SETS_MOST ? coupled[set] : NONE;
        }

        private int leastOfPart(Line line, int part) {
            int first = Integer.numberOfTrailingZeros(part);
            int best = NONE;
            for (int r = first + 1; r < line.riderCount; r++) {
                if (holds(part, r)) {
                    int greatest = Math.max(borne(line, first, r), coupled[without(part, first, r)]);
                    best = best == NONE ? greatest : Math.min(best, greatest);
                }
            }
            return best;
        }

        int waysCoupled(Line line, int set, int most) {
            coupled[0] = 1;
            for (int part = 1; part <= set && part < SETS_MOST; part++) {
                if (isEvenPart(part, set)) {
                    coupled[part] = waysOfPart(line, part, most);
                }
            }
            return set > 0 && set < SETS_MOST ? coupled[set] : NONE;
        }

        private int waysOfPart(Line line, int part, int most) {
            int first = Integer.numberOfTrailingZeros(part);
            int sum = 0;
            for (int r = first + 1; r < line.riderCount; r++) {
                if (holds(part, r) && borne(line, first, r) <= most) {
                    sum += coupled[without(part, first, r)];
                }
            }
            return sum;
        }

        private static boolean isEvenPart(int part, int set) {
            return (part & set) == part && Integer.bitCount(part) % 2 == 0;
        }

        private static int without(int part, int one, int other) {
            return part & ~(1 << one) & ~(1 << other);
        }

        private static int borne(Line line, int one, int other) {
            return (line.ounces[one] + line.ounces[other] + 1) / 2;
        }
    }

    /** Ounces that come hour by hour, and when trams are to leave with them. */
    private static final class Flow {
        int need;
        final int[] come = new int[HOURS];
        /** Of the best plan for what comes from an hour on: its trams, its waiting, its first hour. */
        private final int[] trams = new int[HOURS + 1];
        private final int[] waits = new int[HOURS + 1];
        private final int[] firsts = new int[HOURS + 1];

        Flow() {
            clear();
        }

        void clear() {
            need = 10;
            fill(come, 0);
        }

        void copy(Flow other) {
            need = other.need;
            copyRow(other.come, come);
        }

        int answer(int what) {
            switch (what) {
                case 0: return need;
                case 1: return rush();
                case 2: return steady();
                case 3: return lull();
                case 4: return sum(0, HOURS);
                case 5: return half();
                default: return what >= 10 && what < 10 + HOURS ? come[what - 10] : NONE;
            }
        }

        private int sum(int from, int to) {
            int sum = 0;
            for (int h = Math.max(0, from); h < to && h < HOURS; h++) {
                sum += come[h];
            }
            return sum;
        }

        private int rush() {
            int most = 0;
            for (int h = 1; h < HOURS; h++) {
                if (come[h] > come[most]) {
                    most = h;
                }
            }
            return most;
        }

        private int steady() {
            for (int many = 1; many <= HOURS; many++) {
                if (isSteady(many)) {
                    return many;
                }
            }
            return NONE;
        }

        private boolean isSteady(int many) {
            for (int from = 0; from <= HOURS - many; from++) {
                if (sum(from, from + many) < need) {
                    return false;
                }
            }
            return true;
        }

        private int lull() {
            int most = 0;
            int now = 0;
            for (int h = 0; h < HOURS; h++) {
                now = come[h] == 0 ? now + 1 : 0;
                most = Math.max(most, now);
            }
            return most;
        }

        private int half() {
            int day = sum(0, HOURS);
            for (int h = 0; h < HOURS; h++) {
                if (2 * sum(0, h + 1) >= day) {
                    return h;
                }
            }
            return NONE;
        }

        void plan() {
            trams[HOURS] = 0;
            waits[HOURS] = 0;
            firsts[HOURS] = NONE;
            for (int from = HOURS - 1; from >= 0; from--) {
                planFrom(from);
            }
        }

        /** A plan of most trams has most trams behind its first one too, so the best plans of later hours do. */
        private void planFrom(int from) {
            trams[from] = 0;
            firsts[from] = NONE;
            int waiting = 0;
            int waited = 0;
            for (int h = from; h < HOURS; h++) {
                waited += waiting;
                waiting += come[h];
                if (waiting >= need && isBetter(from, 1 + trams[h + 1], waited + waits[h + 1])) {
                    trams[from] = 1 + trams[h + 1];
                    waits[from] = waited + waits[h + 1];
                    firsts[from] = h;
                }
            }
            if (trams[from] == 0) {
                waits[from] = waited + waiting;
            }
        }

        private boolean isBetter(int from, int tramsThen, int waitThen) {
            return tramsThen > trams[from] || tramsThen == trams[from] && waitThen < waits[from];
        }

        int planned(int what) {
            switch (what) {
                case 0: return trams[0];
                case 1: return waits[0];
                default: return what >= 10 && what < 10 + HOURS ? hourOf(what - 10) : NONE;
            }
        }

        private int hourOf(int k) {
            int hour = firsts[0];
            for (int i = 0; i < k && hour >= 0 && hour < HOURS; i++) {
                hour = firsts[hour + 1];
            }
            return hour;
        }
    }

    /** Strangers as seen on hills, and what was judged of them. */
    private static final class Sight {
        int strangers;
        int factCount;
        final int[] climbed = new int[FACTS_MOST];
        final int[] sets = new int[FACTS_MOST];
        final int[] hills = new int[FACTS_MOST];
        /** Kept, since it is dear: it stays true as long as no further text is taken. */
        boolean judged;
        int ways;
        int question;
        final int[] least = new int[STRANGERS_MOST];
        final int[] most = new int[STRANGERS_MOST];

        Sight() {
            clear();
        }

        void clear() {
            strangers = 2;
            factCount = 0;
            judged = false;
        }

        void copy(Sight other) {
            strangers = other.strangers;
            factCount = other.factCount;
            copyRow(other.climbed, climbed);
            copyRow(other.sets, sets);
            copyRow(other.hills, hills);
            judged = other.judged;
            ways = other.ways;
            question = other.question;
            copyRow(other.least, least);
            copyRow(other.most, most);
        }

        void addFact(int climbedIt, int set, int hill) {
            if (factCount < FACTS_MOST) {
                climbed[factCount] = climbedIt;
                sets[factCount] = set;
                hills[factCount] = hill;
                factCount++;
            }
        }

        /** Whether a set names one of whom there are not so many. */
        boolean namesTooMany() {
            for (int k = 0; k < factCount; k++) {
                if (sets[k] >= 1 << strangers) {
                    return true;
                }
            }
            return false;
        }

        int answer(int k, int what) {
            if (k == NONE) {
                return what == 0 ? strangers : what == 1 ? factCount : REFUSED;
            }
            if (k < 0 || k >= factCount) {
                return REFUSED;
            }
            switch (what) {
                case 0: return climbed[k];
                case 1: return sets[k];
                case 2: return hills[k];
                default: return REFUSED;
            }
        }

        int verdict(int what) {
            if (what == 0) {
                return ways;
            }
            if (what == 1) {
                return question;
            }
            if (what >= 10 && what < 10 + strangers) {
                return least[what - 10];
            }
            return what >= 20 && what < 20 + strangers ? most[what - 20] : REFUSED;
        }
    }

    /** Goes through all that the strangers of a sight can bear. */
    private static final class Judge {
        private static final int BORNE_BASE = 10;
        private static final int HILL_MOST = 36;
        private static final int SET_BASE = 40;
        private static final int STRANGER_SETS = 16;

        private final int[] borne = new int[STRANGERS_MOST];
        private final int[] sums = new int[STRANGER_SETS];
        private final int[] tally = new int[STRANGER_SETS * (HILL_MOST + 1)];

        void weigh(Sight sight) {
            fill(tally, 0);
            fill(sight.least, NONE);
            fill(sight.most, NONE);
            sight.ways = 0;
            int all = 1;
            for (int s = 0; s < sight.strangers; s++) {
                all *= BORNE_BASE;
            }
            for (int way = 0; way < all; way++) {
                layOut(way, sight.strangers);
                if (agrees(sight)) {
                    record(sight);
                }
            }
            sight.question = bestQuestion(sight);
            sight.judged = true;
        }

        private void layOut(int way, int strangers) {
            int rest = way;
            for (int s = 0; s < strangers && s < STRANGERS_MOST; s++) {
                borne[s] = rest % BORNE_BASE;
                rest /= BORNE_BASE;
            }
            sums[0] = 0;
            for (int set = 1; set < 1 << strangers && set < STRANGER_SETS; set++) {
                sums[set] = sums[set & set - 1] + borne[Integer.numberOfTrailingZeros(set)];
            }
        }

        private boolean agrees(Sight sight) {
            for (int k = 0; k < sight.factCount; k++) {
                boolean climbs = sums[sight.sets[k]] >= sight.hills[k];
                if (climbs != (sight.climbed[k] == 1)) {
                    return false;
                }
            }
            return true;
        }

        private void record(Sight sight) {
            boolean first = sight.ways == 0;
            sight.ways++;
            for (int s = 0; s < sight.strangers; s++) {
                sight.least[s] = first ? borne[s] : Math.min(sight.least[s], borne[s]);
                sight.most[s] = Math.max(sight.most[s], borne[s]);
            }
            for (int set = 1; set < 1 << sight.strangers; set++) {
                tally[set * (HILL_MOST + 1) + sums[set]]++;
            }
        }

        private int bestQuestion(Sight sight) {
            int best = NONE;
            int bestGreater = sight.ways + 1;
            if (sight.ways == 0) {
                return NONE;
            }
            for (int set = 1; set < 1 << sight.strangers; set++) {
                int below = 0;
                for (int hill = 1; hill <= HILL_MOST; hill++) {
                    below += tally[set * (HILL_MOST + 1) + hill - 1];
                    int greater = Math.max(below, sight.ways - below);
                    if (greater < bestGreater) {
                        bestGreater = greater;
                        best = SET_BASE * set + hill;
                    }
                }
            }
            return best;
        }
    }

    /** Reads the tape as a text of a sort, into objects of its own, so that a fault spoils nothing. */
    private static final class Reader {
        private static final int END = 0;
        private static final int WORD = 1;
        private static final int NUMBER = 2;
        private static final int SEMICOLON = 3;
        private static final int STRAY = 4;

        private static final int HILL = 0;
        private static final int SEATS = 1;
        private static final int RIDER = 2;
        private static final int WEAR = 3;
        private static final int FARE = 4;
        private static final int BOARD = 5;
        private static final int BACK = 12;
        private static final int NEED = 13;
        private static final int COME = 14;
        private static final int MANY = 15;
        private static final int CLIMBED = 16;
        private static final int STALLED = 17;

        /** The first form of each sort, and where the last sort's end. */
        private static final int[] FIRST_FORMS = {0, 5, 13, 15, 18};

        private static final int FORM_WIDTH = 6;
        /** A form's row: whether a kind comes, how many numbers, the least and the most of each of two. */
        private static final int[] FORMS = {
            0, 1, 0, 99, 0, 0,
            0, 1, 1, 6, 0, 0,
            1, 1, 0, 60, 0, 0,
            1, 1, 0, 9, 0, 0,
            0, 2, 1, 8, 0, 99,
            0, 2, 0, 7, 0, 5,
            0, 2, 0, 7, 0, 5,
            0, 1, 0, 7, 0, 0,
            0, 1, 1, 9, 0, 0,
            0, 1, 1, 9, 0, 0,
            0, 0, 0, 0, 0, 0,
            0, 0, 0, 0, 0, 0,
            0, 0, 0, 0, 0, 0,
            0, 1, 1, 99, 0, 0,
            0, 2, 0, 23, 0, 99,
            0, 1, 1, 4, 0, 0,
            0, 2, 1, 15, 1, 36,
            0, 2, 1, 15, 1, 36,
        };

        final Line line = new Line();
        final Ride ride = new Ride();
        final Flow flow = new Flow();
        final Sight sight = new Sight();
        int fault;
        int place;

        private byte[] tape = new byte[0];
        private int length;
        private int at;
        private int token;
        private int tokenPlace;
        private int number;
        private int kind;
        private final int[] numbers = new int[2];

        void read(byte[] bytes, int many, int sort) {
            tape = bytes;
            length = within(many, 0, bytes.length);
            at = 0;
            fault = 0;
            place = NONE;
            clearOf(sort);
            step();
            for (int n = 0; n <= TAPE_ROOM && token != END && fault != 1; n++) {
                if (!readStatement(sort)) {
                    fault = 1;
                    place = tokenPlace;
                }
            }
            if (fault == 0 && sort == SIGHT_SORT && sight.namesTooMany()) {
                note(4, length);
            }
        }

        private void clearOf(int sort) {
            switch (sort) {
                case LINE_SORT: line.clear(); break;
                case RIDE_SORT: ride.deedCount = 0; break;
                case FLOW_SORT: flow.clear(); break;
                default: sight.clear(); break;
            }
        }

        /** False, with the token that is wrong still ahead, if no text goes on so. */
        private boolean readStatement(int sort) {
            int form = formHere(sort);
            if (form == NONE) {
                return false;
            }
            if (isFull(form)) {
                note(3, tokenPlace);
            }
            step();
            if (!readKind(form) || !readNumbers(form) || token != SEMICOLON) {
                return false;
            }
            step();
            if (fault == 0) {
                take(form);
            }
            return true;
        }

        private boolean readKind(int form) {
            if (FORMS[form * FORM_WIDTH] == 0) {
                return true;
            }
            kind = kindHere();
            if (kind == NONE) {
                return false;
            }
            step();
            return true;
        }

        private boolean readNumbers(int form) {
            int row = form * FORM_WIDTH;
            fill(numbers, NONE);
            for (int i = 0; i < FORMS[row + 1]; i++) {
                if (token != NUMBER) {
                    return false;
                }
                if (number < FORMS[row + 2 + 2 * i] || number > FORMS[row + 3 + 2 * i]) {
                    note(2, tokenPlace);
                }
                numbers[i] = number;
                step();
            }
            return true;
        }

        /** The first one by place counts, and they are met by place. */
        private void note(int newFault, int newPlace) {
            if (fault == 0) {
                fault = newFault;
                place = newPlace;
            }
        }

        private boolean isFull(int form) {
            if (form == HILL) {
                return line.hillCount >= HILLS_MOST;
            }
            if (form == RIDER) {
                return line.riderCount >= RIDERS_MOST;
            }
            if (form >= BOARD && form <= BACK) {
                return ride.deedCount >= DEEDS_MOST;
            }
            return (form == CLIMBED || form == STALLED) && sight.factCount >= FACTS_MOST;
        }

        private void take(int form) {
            int first = numbers[0];
            int second = numbers[1];
            switch (form) {
                case HILL: line.addHill(first); break;
                case SEATS: line.seats = first; break;
                case RIDER: line.addRider(kind, first); break;
                case WEAR: line.wear[kind] = first; break;
                case FARE: line.fares[first] = second; break;
                case NEED: flow.need = first; break;
                case COME: flow.come[first] = second; break;
                case MANY: sight.strangers = first; break;
                case CLIMBED: sight.addFact(1, first, second); break;
                case STALLED: sight.addFact(0, first, second); break;
                default: ride.addDeed(form - BOARD, first, second); break;
            }
        }

        private void step() {
            while (at < length && isBlank(tape[at])) {
                at++;
            }
            tokenPlace = at;
            if (at >= length) {
                token = END;
            } else if (isLetter(tape[at])) {
                stepOverWord();
            } else if (isDigit(tape[at])) {
                stepOverDigits();
            } else {
                token = tape[at] == ';' ? SEMICOLON : STRAY;
                at++;
            }
        }

        private void stepOverWord() {
            while (at < length && isLetter(tape[at])) {
                at++;
            }
            token = WORD;
        }

        private void stepOverDigits() {
            number = 0;
            while (at < length && isDigit(tape[at])) {
                number = number * 10 + tape[at] - '0';
                at++;
            }
            token = at - tokenPlace <= 2 ? NUMBER : STRAY;
        }

        private static boolean isBlank(byte b) {
            return b == 10 || b == 32;
        }

        private static boolean isLetter(byte b) {
            return b >= 'a' && b <= 'z';
        }

        private static boolean isDigit(byte b) {
            return b >= '0' && b <= '9';
        }

        private int formHere(int sort) {
            for (int form = FIRST_FORMS[sort]; form < FIRST_FORMS[sort + 1]; form++) {
                if (isHere(formWord(form))) {
                    return form;
                }
            }
            return NONE;
        }

        private int kindHere() {
            for (int k = 0; k < KINDS; k++) {
                if (isHere(kindWord(k))) {
                    return k;
                }
            }
            return NONE;
        }

        private boolean isHere(String word) {
            if (token != WORD || at - tokenPlace != word.length()) {
                return false;
            }
            for (int i = 0; i < word.length(); i++) {
                if (tape[tokenPlace + i] != word.charAt(i)) {
                    return false;
                }
            }
            return true;
        }

        private static String kindWord(int k) {
            switch (k) {
                case LOSS: return "loss";
                case LOVE: return "love";
                case SHAME: return "shame";
                default: return "false";
            }
        }

        private static String formWord(int form) {
            switch (form) {
                case HILL: return "hill";
                case SEATS: return "seats";
                case RIDER: return "rider";
                case WEAR: return "wear";
                case FARE: return "fare";
                case BOARD: return "board";
                case BOARD + Ride.MOVE: return "move";
                case BOARD + Ride.OFF: return "off";
                case BOARD + Ride.TELL: return "tell";
                case BOARD + Ride.JOKE: return "joke";
                case BOARD + Ride.GO: return "go";
                case BOARD + Ride.SHARE: return "share";
                case BACK: return "back";
                case NEED: return "need";
                case COME: return "come";
                case MANY: return "many";
                case CLIMBED: return "climbed";
                default: return "stalled";
            }
        }
    }
}
