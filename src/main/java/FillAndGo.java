/** Small buses of a city without a timetable, that leave a stage when seats enough are sold. */
public final class FillAndGo {
    public static final int NONE = -1, BAD = -2, STATE = -3, FULL = -4;
    public static final long NO = -4611686018427387904L;

    private static final int NO_SUCH = -5, NOT_SO = -6, NO_WHAT = -7;
    private static final int MISSING = -11, OUTSIDE = -12, UNLIKE = -13, BELOW_ZERO = -14;
    private static final int FAULTY = -100, UNNUMBERED = -1000000;

    private static final int STAGES = 6, BUSES = 12, OWNERS = 6, HOURS = 24;
    private static final int DAY = 1440, LAST_MINUTE = 14400;
    private static final int RESTS = 0, QUEUES = 1, LOADS = 2, RUNS = 3, HELD = 4;
    private static final int RUN = 0, SHORT = 1, EMPTY = 2, EARLY = 3, EXTRA = 4, HIRED = 5, KINDS = 6;
    private static final int COME_IN = 5, CHANGE = 5;
    /** Above every sum of WAYS and changes. */
    private static final int FAR = 1000000;

    private static final int TAPE = 160, CUSTOMS = 6, LINES = 8, TESTS = 3, DIGITS = 4;
    private static final int GO = 0, FARE = 1, KEEP = 2, KEYS = 3;
    private static final int[] PLAIN = {100, 20, 30};
    private static final int FACTS = 8, FACT_STAGE = 5;
    /** Each word has a blank behind it: so is its end seen. */
    private static final String KEY_WORDS = "go fare keep ";
    private static final String FACT_WORDS = "waited sold rain hour queue stage owner earned ";

    private static final int ROUTES = 6, SIDES = 4, MEMBERS = 6;
    private static final int PAID = 0, TOOK = 1, STOPPED = 2, PURSES = 3;
    private static final int BOOKS = 30, DAYS = 10, MOST_BOOKED = 1000000;
    private static final int BOOK_BUS = 0, BOOK_DAY = 1, BOOK_SUM = 2, BOOK_TOLD = 3;
    private static final int MEND_SUM = 4, MEND_TOLD = 5, BOOK_CELLS = 6;
    private static final int SHEETS = 4, CELLS = 40, BYTES = 0, SHORTS = 1, INTS = 2, GONE = -1;
    private static final int PLACES = 5, OF_A_BUS = 4, MOST_BUSES_READ = 10;

    private final Town town = new Town();
    private final World now = new World();
    private final World ahead = new World();
    private final World kept = new World();
    private boolean hasImage;
    private final Tape tape = new Tape();
    private int bestSet;
    private final int[][] gains = new int[ROUTES][SIDES];
    private int fightCost;
    private int members, share, turn;
    private final int[][] purses = new int[PURSES][MEMBERS];
    private final int[][] books = new int[BOOKS][BOOK_CELLS];
    private int bookCount;
    private final int[][] rows = new int[SHEETS][CELLS];
    private final int[] sizes = new int[SHEETS];
    private final int[] sorts = {GONE, GONE, GONE, GONE};

    public FillAndGo() {
    }

    // ---- what is told of the city

    public int road(int a, int b, int minutes) {
        if (!isStage(a) || !isStage(b)) return NONE;
        if (a == b || !within(minutes, 0, 60)) return BAD;
        int old = town.roads[a * STAGES + b];
        town.roads[a * STAGES + b] = minutes;
        town.roads[b * STAGES + a] = minutes;
        return old;
    }

    public int jam(int hour, int tenths) {
        if (!within(hour, 0, HOURS - 1) || !within(tenths, 1, 50)) return BAD;
        int old = town.jams[hour];
        town.jams[hour] = tenths;
        return old;
    }

    public int people(int a, int b, int tenths) {
        if (!isStage(a) || !isStage(b)) return NONE;
        if (a == b || !within(tenths, 0, 99)) return BAD;
        int old = town.rates[a * STAGES + b];
        town.rates[a * STAGES + b] = tenths;
        return old;
    }

    public int rain(int is) {
        if (!within(is, 0, 1)) return BAD;
        int old = now.rain;
        now.rain = is;
        return old;
    }

    public int bus(int seat, int of, int aim, int each) {
        return town.enrol(seat, of, aim, each);
    }

    public int queue(int b, int stage) {
        if (!isBus(b) || !isStage(stage)) return NONE;
        if (now.rides[b].state != RESTS) return STATE;
        return now.lineUp(b, stage);
    }

    public int rest(int b) {
        if (!isBus(b)) return NONE;
        Ride ride = now.rides[b];
        if (ride.state != QUEUES) return STATE;
        ride.state = RESTS;
        return ride.stage;
    }

    public int jump(int b, int cost) {
        if (!isBus(b)) return NONE;
        if (!within(cost, 0, 9999)) return BAD;
        Ride ride = now.rides[b];
        if (ride.state != QUEUES) return STATE;
        int first = now.firstInLine(ride.stage);
        if (first == b || first < 0) return NOT_SO;
        ride.number = now.rides[first].number - 1;
        ride.spent += cost;
        return ride.number;
    }

    public int hold(int b, int minutes) {
        if (!isBus(b)) return NONE;
        if (!within(minutes, 1, 600)) return BAD;
        Ride ride = now.rides[b];
        if (ride.state != RUNS) return STATE;
        ride.state = HELD;
        ride.since = now.minute + minutes;
        return ride.left;
    }

    public int wants(int b, int kind) {
        if (!isBus(b)) return NONE;
        if (!isKind(kind)) return BAD;
        int old = town.wanted[b];
        town.wanted[b] = kind;
        return old;
    }

    // ---- customs

    public int feed(long w, int n) {
        if (!within(n, 1, 8)) return BAD;
        if (tape.length + n > TAPE) return FULL;
        return tape.append(w, n);
    }

    public int custom() {
        if (town.customs >= CUSTOMS) return FULL;
        boolean fine = tape.parse();
        tape.length = 0;
        return fine ? town.adopt(tape.draft, tape.drafted) : FAULTY - tape.place;
    }

    public int force(int stage, int custom) {
        if (!isStage(stage)) return NO_SUCH;
        if (!within(custom, NONE, town.customs - 1)) return BAD;
        int old = town.forced[stage];
        town.forced[stage] = custom;
        return old;
    }

    public int law(int b, int key) {
        if (!isBus(b)) return NONE;
        if (!within(key, 0, KEYS - 1)) return BAD;
        return town.says(town.factsOf(now, b), key);
    }

    public int why(int b, int key) {
        if (!isBus(b)) return NO_SUCH;
        if (!within(key, 0, KEYS - 1)) return BAD;
        int place = town.linePlace(town.factsOf(now, b), key);
        return place < 0 ? NONE : place % LINES;
    }

    public int minutes(int n) {
        if (!within(n, 1, 200)) return BAD;
        if (now.minute + n > LAST_MINUTE) return FULL;
        for (int i = 0; i < n; i++) town.pass(now);
        return now.minute;
    }

    // ---- looking

    public int busTold(int b, int what) {
        if (!isBus(b)) return NO_SUCH;
        Ride ride = now.rides[b];
        switch (what) {
            case 0: return ride.state;
            case 1: return ride.stage;
            case 2: return ride.state == QUEUES ? ride.number : UNNUMBERED;
            case 3: return ride.aim;
            case 4: return ride.sold;
            case 5: return ride.left;
            case 6: return ride.earned;
            case 7: return ride.spent;
            case 8: return ride.kept;
            case 9: return ride.owes;
            case 10: return ride.runs;
            case 11: return ride.kind;
            default: return NO_WHAT;
        }
    }

    public int waiting(int a, int b) {
        if (!isStage(a) || !isStage(b)) return NONE;
        if (a == b) return BAD;
        return now.crowds[a * STAGES + b];
    }

    public int stageTold(int s, int what) {
        if (!isStage(s)) return NO_SUCH;
        switch (what) {
            case 0: return now.inLine(s);
            case 1: return now.firstInLine(s);
            case 2: return now.loadingAt(s);
            case 3: return town.mostWanted(now, s);
            default: return NO_WHAT;
        }
    }

    public int kindTold(int kind, int what, int v) {
        if (!isKind(kind) || !within(v, 0, 999)) return BAD;
        Run run = town.kinds[kind];
        switch (what) {
            case 0: return run.needOf(v);
            case 1: return run.fareOf(v);
            case 2: return run.minutesOf(v);
            case 3: return run.fuelOf(v);
            default: return BAD;
        }
    }

    public int count(int what) {
        switch (what) {
            case 0: return now.minute;
            case 1: return town.enrolled;
            case 2: return now.walked;
            case 3: return now.ridden;
            case 4: return now.waited;
            case 5: return town.customs;
            case 6: return tape.length;
            case 7: return bookCount;
            case 8: return now.rain;
            case 9: return members;
            default: return BAD;
        }
    }

    // ---- ahead

    public int trip(int a, int b) {
        if (!isStage(a) || !isStage(b)) return NONE;
        if (a == b) return BAD;
        return town.leastTrip(a, b, now.hour());
    }

    public int foretell(int stage, int n) {
        if (!isStage(stage)) return NONE;
        if (!within(n, 1, 240)) return BAD;
        int b = now.loadingAt(stage);
        if (b < 0) return STATE;
        ahead.become(now);
        for (int behind = 1; behind <= n; behind++) {
            town.pass(ahead);
            if (ahead.rides[b].state != LOADS) return behind;
        }
        return NOT_SO;
    }

    public long beside(int n, int rain, int what) {
        if (!within(n, 1, 240) || !within(rain, 0, 1) || !within(what, 0, 2)) return NO;
        if (now.minute + n > LAST_MINUTE) return NO;
        ahead.become(now);
        ahead.rain = rain;
        for (int i = 0; i < n; i++) town.pass(ahead);
        if (what == 0) return (long) ahead.waited - now.waited;
        if (what == 1) return (long) ahead.ridden - now.ridden;
        return (long) ahead.walked - now.walked;
    }

    public long plan(int sheet, int most, int n) {
        if (!isSheet(sheet) || !within(most, 0, PLACES) || !within(n, 1, 120)) return NO;
        if (now.minute + n > LAST_MINUTE || !tellsPlaces(sheet)) return NO;
        int sets = 1 << (sizes[sheet] / 2);
        long least = -1;
        for (int set = 0; set < sets; set++) {
            if (Integer.bitCount(set) > most) continue;
            long waited = waitedWith(rows[sheet], set, n);
            if (waited >= 0 && (least < 0 || waited < least)) {
                least = waited;
                bestSet = set;
            }
        }
        return least;
    }

    public int planned() {
        return bestSet;
    }

    // ---- routes, savings

    public int gain(int route, int side, int v) {
        if (!within(route, 0, ROUTES - 1) || !within(side, 0, SIDES - 1)) return NONE;
        if (!within(v, 0, 9999)) return BAD;
        int old = gains[route][side];
        gains[route][side] = v;
        return old;
    }

    public int fights(int cost) {
        if (!within(cost, 0, 9999)) return BAD;
        int old = fightCost;
        fightCost = cost;
        return old;
    }

    public int part(int routes, int sides, int most, int i) {
        if (!within(routes, 1, ROUTES) || !within(sides, 1, SIDES) || !within(most, 1, ROUTES)) return BAD;
        if (!within(i, -2, routes - 1)) return NO_SUCH;
        int quiet = 0, best = -1, bestParting = 0;
        for (int parting = 0; parting < 1 << (2 * routes); parting++) {
            int sum = quietGain(parting, routes, sides, most);
            if (sum < 0) continue;
            quiet++;
            if (sum > best) {
                best = sum;
                bestParting = parting;
            }
        }
        if (i == -2) return quiet;
        if (quiet == 0) return STATE;
        return i == -1 ? best : sideIn(bestParting, routes, i);
    }

    public int round(int many, int sum) {
        if (!within(many, 2, MEMBERS) || !within(sum, 1, 999)) return BAD;
        if (members > 0) return STATE;
        members = many;
        share = sum;
        return many;
    }

    public int stops(int m) {
        if (!isMember(m)) return NONE;
        if (purses[STOPPED][m] != 0) return STATE;
        purses[STOPPED][m] = 1;
        return purses[PAID][m] - purses[TOOK][m];
    }

    public int turns() {
        if (members == 0) return STATE;
        int taker = taker();
        if (taker < 0) return NONE;
        for (int m = 0; m < members; m++) {
            if (purses[STOPPED][m] != 0) continue;
            purses[PAID][m] += share;
            purses[TOOK][taker] += share;
        }
        turn = taker + 1 < members ? taker + 1 : 0;
        return taker;
    }

    public int saved(int m, int what) {
        if (!isMember(m)) return NO_SUCH;
        if (!within(what, 0, PURSES - 1)) return BAD;
        return purses[what][m];
    }

    // ---- books, images

    public int book(int b, int day, int sum) {
        if (!isBus(b)) return NONE;
        if (!within(day, 0, DAYS - 1) || !within(sum, 0, MOST_BOOKED)) return BAD;
        if (bookCount >= BOOKS) return FULL;
        int[] book = books[bookCount];
        book[BOOK_BUS] = b;
        book[BOOK_DAY] = day;
        book[BOOK_SUM] = sum;
        book[BOOK_TOLD] = now.minute;
        book[MEND_TOLD] = NONE;
        bookCount++;
        return bookCount - 1;
    }

    public int mend(int k, int sum) {
        if (!within(k, 0, bookCount - 1)) return NONE;
        if (!within(sum, 0, MOST_BOOKED)) return BAD;
        int[] book = books[k];
        if (book[MEND_TOLD] != NONE) return STATE;
        book[MEND_SUM] = sum;
        book[MEND_TOLD] = now.minute;
        return book[BOOK_SUM];
    }

    public long told(int b, int days, int known) {
        if (!isBus(b) || !within(days, 0, 99) || days % 10 < days / 10) return NO;
        if (!within(known, 0, now.minute)) return NO;
        long all = 0;
        for (int k = 0; k < bookCount; k++) {
            int[] book = books[k];
            if (book[BOOK_BUS] != b || !within(book[BOOK_DAY], days / 10, days % 10)) continue;
            if (book[BOOK_TOLD] <= known) all += sumKnown(book, known);
        }
        return all;
    }

    public int image() {
        kept.become(now);
        hasImage = true;
        return now.minute;
    }

    public int back() {
        if (!hasImage) return STATE;
        now.become(kept);
        return now.minute;
    }

    // ---- the host

    public int sheet(int s, int sort, int n) {
        if (!isSheet(s) || !within(sort, GONE, INTS)) return BAD;
        if (sort != GONE && n > CELLS) return BAD;
        if (sort != GONE && n < 0) return BELOW_ZERO;
        sorts[s] = sort;
        sizes[s] = sort == GONE ? 0 : n;
        for (int i = 0; i < CELLS; i++) rows[s][i] = 0;
        return 1;
    }

    public int cell(int s, int i, int v) {
        if (!isSheet(s)) return BAD;
        if (sorts[s] == GONE) return MISSING;
        if (!within(i, 0, sizes[s] - 1)) return OUTSIDE;
        rows[s][i] = sorts[s] == BYTES ? (byte) v : sorts[s] == SHORTS ? (short) v : v;
        return 1;
    }

    public int copy(int s, int i, int other, int j, int n) {
        if (!isSheet(s) || !isSheet(other)) return BAD;
        if (sorts[s] == GONE || sorts[other] == GONE) return MISSING;
        if (sorts[s] != sorts[other]) return UNLIKE;
        if (!holdsAll(s, i, n) || !holdsAll(other, j, n)) return OUTSIDE;
        System.arraycopy(rows[s], i, rows[other], j, n);
        return n;
    }

    public int buses(int s, int sort, int from, int n) {
        if (!isSheet(s) || !within(sort, BYTES, INTS) || !within(n, 0, MOST_BUSES_READ)) return BAD;
        if (sorts[s] == GONE) return MISSING;
        if (sorts[s] != sort) return UNLIKE;
        int came = 0;
        for (int k = 0; k < n; k++) {
            int at = from + OF_A_BUS * k;
            if (!holdsAll(s, at, OF_A_BUS)) return OUTSIDE;
            int[] row = rows[s];
            if (town.enrol(row[at], row[at + 1], row[at + 2], row[at + 3]) >= 0) came++;
        }
        return came;
    }

    public int taken(int b, int kind) {
        if (!isKind(kind)) return BAD;
        if (!isBus(b)) return MISSING;
        Ride ride = now.rides[b];
        if (ride.state == RESTS || ride.state == QUEUES) return UNLIKE;
        return town.kinds[ride.kind].isOf(kind) ? ride.kind : UNLIKE;
    }

    // ---- what the calls share

    private static boolean within(int v, int least, int most) {
        return v >= least && v <= most;
    }

    private static boolean isStage(int s) {
        return within(s, 0, STAGES - 1);
    }

    private static boolean isKind(int kind) {
        return within(kind, 0, KINDS - 1);
    }

    private static boolean isSheet(int s) {
        return within(s, 0, SHEETS - 1);
    }

    private boolean isBus(int b) {
        return within(b, 0, town.enrolled - 1);
    }

    private boolean isMember(int m) {
        return within(m, 0, members - 1);
    }

    /** Whether n numbers from i on stand in a SHEET; long, since the sum of two ints may wrap around. */
    private boolean holdsAll(int s, int i, int n) {
        return i >= 0 && n >= 0 && (long) i + n <= sizes[s];
    }

    /** Whether a SHEET is one that a PLAN can be made by. */
    private boolean tellsPlaces(int s) {
        if (sorts[s] == GONE || sizes[s] % 2 != 0 || sizes[s] > 2 * PLACES) return false;
        for (int i = 0; i + 1 < sizes[s]; i += 2) {
            if (!isBus(rows[s][i]) || !isStage(rows[s][i + 1])) return false;
        }
        return true;
    }

    /** What is WAITED in n MINUTES with a set of places; -1 if one of its BUSES does not REST at its turn. */
    private long waitedWith(int[] places, int set, int n) {
        ahead.become(now);
        for (int place = 0; place < PLACES; place++) {
            if ((set >> place & 1) == 0) continue;
            int b = places[2 * place];
            if (ahead.rides[b].state != RESTS) return -1;
            ahead.lineUp(b, places[2 * place + 1]);
        }
        for (int i = 0; i < n; i++) town.pass(ahead);
        return (long) ahead.waited - now.waited;
    }

    /** The SIDE of a ROUTE: two bits each, ROUTE 0 highest, so that counting up goes by ROUTES. */
    private static int sideIn(int parting, int routes, int route) {
        return parting >> (2 * (routes - 1 - route)) & 3;
    }

    /** The GAIN together of a parting; -1 if it isn't one or isn't QUIET. */
    private int quietGain(int parting, int routes, int sides, int most) {
        int sum = 0, has = 0;
        for (int route = 0; route < routes; route++) {
            int one = sideIn(parting, routes, route);
            if (one >= sides || !isQuiet(route, one, sides)) return -1;
            has += 1 << (4 * one);
            if ((has >> (4 * one) & 15) > most) return -1;
            sum += gains[route][one];
        }
        return sum;
    }

    private boolean isQuiet(int route, int has, int sides) {
        for (int other = 0; other < sides; other++) {
            if (gains[route][other] - fightCost > gains[route][has]) return false;
        }
        return true;
    }

    /** Who takes all in the next turn; -1 if all have STOPPED. */
    private int taker() {
        int m = turn;
        for (int i = 0; i < members; i++) {
            if (m >= members) m = 0;
            if (purses[STOPPED][m] == 0) return m;
            m++;
        }
        return -1;
    }

    private static int sumKnown(int[] book, int known) {
        boolean mended = book[MEND_TOLD] != NONE && book[MEND_TOLD] <= known;
        return mended ? book[MEND_SUM] : book[BOOK_SUM];
    }

    // ---- KINDS of runs: what isn't told of one is as of the one above

    private static class Run {
        int needOf(int told) {
            return Math.max(1, Math.min(100, told));
        }

        int fareOf(int told) {
            return told;
        }

        int minutesOf(int way) {
            return way;
        }

        int fuelOf(int each) {
            return each;
        }

        int takings(int told, int sold) {
            return fareOf(told) * sold;
        }

        boolean carries() {
            return true;
        }

        boolean turnsBack() {
            return false;
        }

        boolean isOf(int kind) {
            return kind == RUN;
        }
    }

    private static final class ShortRun extends Run {
        int fareOf(int told) {
            return told * 6 / 10;
        }

        int minutesOf(int way) {
            return (way + 1) / 2;
        }

        boolean turnsBack() {
            return true;
        }

        boolean isOf(int kind) {
            return kind == SHORT || super.isOf(kind);
        }
    }

    private static class EmptyRun extends Run {
        int needOf(int told) {
            return 0;
        }

        int fareOf(int told) {
            return 0;
        }

        boolean carries() {
            return false;
        }

        boolean isOf(int kind) {
            return kind == EMPTY || super.isOf(kind);
        }
    }

    private static class EarlyRun extends Run {
        int needOf(int told) {
            return (super.needOf(told) + 1) / 2;
        }

        boolean isOf(int kind) {
            return kind == EARLY || super.isOf(kind);
        }
    }

    private static final class ExtraRun extends EarlyRun {
        int fareOf(int told) {
            return told + told / 5;
        }

        int fuelOf(int each) {
            return each + 1;
        }

        boolean isOf(int kind) {
            return kind == EXTRA || super.isOf(kind);
        }
    }

    private static final class HiredRun extends EmptyRun {
        int fareOf(int told) {
            return 3 * told;
        }

        int minutesOf(int way) {
            return way + 10;
        }

        int takings(int told, int sold) {
            return fareOf(told);
        }

        boolean isOf(int kind) {
            return kind == HIRED || super.isOf(kind);
        }
    }

    // ---- CUSTOMS

    private static final class Line {
        final int key, number;
        int tests;
        /** Of each TEST its fact, its sign and its NUMBER. */
        final int[] facts = new int[TESTS], signs = new int[TESTS], bounds = new int[TESTS];

        Line(int key, int number) {
            this.key = key;
            this.number = number;
        }

        boolean holds(int[] known) {
            for (int t = 0; t < tests && t < TESTS; t++) {
                int have = known[facts[t]];
                boolean fine = signs[t] == '<' ? have < bounds[t]
                        : signs[t] == '>' ? have > bounds[t] : have == bounds[t];
                if (!fine) return false;
            }
            return true;
        }
    }

    /** THE TAPE, and how it is read; place stands at the FAULT when a reading fails. */
    private static final class Tape {
        final byte[] bytes = new byte[TAPE];
        int length, place;
        final Line[] draft = new Line[LINES];
        int drafted;

        int append(long w, int n) {
            for (int i = n - 1; i >= 0 && length < TAPE; i--) {
                bytes[length] = (byte) (w >> (8 * i));
                length++;
            }
            return length;
        }

        boolean parse() {
            place = 0;
            for (int k = 0; k < LINES; k++) {
                draft[k] = parseLine();
                drafted = k + 1;
                if (draft[k] == null) return false;
                if (place >= length) return true;
                if (drafted == LINES || byteAt(place) != '/') return false;
                place++;
            }
            return false;
        }

        /** A LINE; null if none stands here. */
        private Line parseLine() {
            int key = parseWord(KEY_WORDS);
            if (key < 0 || byteAt(place) != '=') return null;
            place++;
            int number = parseNumber();
            if (number < 0) return null;
            Line line = new Line(key, number);
            for (int t = 0; t < TESTS && byteAt(place) == '?'; t++) {
                place++;
                if (!parseTest(line, t)) return null;
            }
            return line;
        }

        private boolean parseTest(Line line, int t) {
            int fact = parseWord(FACT_WORDS);
            if (fact < 0) return false;
            int sign = byteAt(place);
            if (sign != '<' && sign != '>' && sign != '=') return false;
            place++;
            int bound = parseNumber();
            if (bound < 0) return false;
            line.facts[t] = fact;
            line.signs[t] = sign;
            line.bounds[t] = bound;
            line.tests = t + 1;
            return true;
        }

        /** Which word stands here; -1 if none does: then the FAULT is behind what most begins like one. */
        private int parseWord(String words) {
            int which = 0, alike = 0, most = 0;
            boolean same = true;
            for (int i = 0; i < words.length(); i++) {
                char sign = words.charAt(i);
                if (sign == ' ' && same) {
                    place += alike;
                    return which;
                }
                if (sign == ' ') {
                    which++;
                    alike = 0;
                    same = true;
                } else if (same && byteAt(place + alike) == sign) {
                    alike++;
                    most = Math.max(most, alike);
                } else {
                    same = false;
                }
            }
            place += most;
            return -1;
        }

        private int parseNumber() {
            int number = 0, digits = 0;
            while (digits < DIGITS && byteAt(place) >= '0' && byteAt(place) <= '9') {
                number = 10 * number + byteAt(place) - '0';
                digits++;
                place++;
            }
            return digits == 0 ? -1 : number;
        }

        private int byteAt(int i) {
            return i >= 0 && i < length && i < TAPE ? bytes[i] & 255 : -1;
        }
    }

    // ---- what changes as MINUTES go by: all that an IMAGE keeps

    private static final class Ride {
        int state, stage, number, aim, sold, left, since, kind;
        int earned, spent, kept, owes, runs;

        boolean isIn(int wantedState, int atStage) {
            return state == wantedState && stage == atStage;
        }

        void follow(Ride other) {
            state = other.state;
            stage = other.stage;
            number = other.number;
            aim = other.aim;
            sold = other.sold;
            left = other.left;
            since = other.since;
            kind = other.kind;
            earned = other.earned;
            spent = other.spent;
            kept = other.kept;
            owes = other.owes;
            runs = other.runs;
        }
    }

    private static final class World {
        int minute, rain, walked, ridden, waited;
        /** From a to b at a * STAGES + b: who waits, and hundredths of one who is yet to come. */
        final int[] crowds = new int[STAGES * STAGES], parts = new int[STAGES * STAGES];
        final int[] numbers = new int[STAGES];
        final Ride[] rides = new Ride[BUSES];

        World() {
            for (int b = 0; b < BUSES; b++) rides[b] = new Ride();
        }

        void become(World other) {
            minute = other.minute;
            rain = other.rain;
            walked = other.walked;
            ridden = other.ridden;
            waited = other.waited;
            System.arraycopy(other.crowds, 0, crowds, 0, STAGES * STAGES);
            System.arraycopy(other.parts, 0, parts, 0, STAGES * STAGES);
            System.arraycopy(other.numbers, 0, numbers, 0, STAGES);
            for (int b = 0; b < BUSES; b++) rides[b].follow(other.rides[b]);
        }

        int hour() {
            return minute % DAY / 60;
        }

        int lineUp(int b, int stage) {
            Ride ride = rides[b];
            ride.state = QUEUES;
            ride.stage = stage;
            ride.number = numbers[stage];
            ride.since = minute;
            ride.sold = 0;
            ride.left = 0;
            numbers[stage]++;
            return ride.number;
        }

        int inLine(int stage) {
            int many = 0;
            for (int b = 0; b < BUSES; b++) {
                if (rides[b].isIn(QUEUES, stage)) many++;
            }
            return many;
        }

        int firstInLine(int stage) {
            int first = -1;
            for (int b = 0; b < BUSES; b++) {
                if (!rides[b].isIn(QUEUES, stage)) continue;
                if (first < 0 || rides[b].number < rides[first].number) first = b;
            }
            return first;
        }

        int loadingAt(int stage) {
            for (int b = 0; b < BUSES; b++) {
                if (rides[b].isIn(LOADS, stage)) return b;
            }
            return -1;
        }
    }

    // ---- what is told of the city, and how a MINUTE goes by in it

    private static final class Town {
        final int[] roads = new int[STAGES * STAGES];
        final int[] rates = new int[STAGES * STAGES];
        final int[] jams = new int[HOURS];
        final int[] seats = new int[BUSES], owners = new int[BUSES];
        final int[] targets = new int[BUSES], fuels = new int[BUSES], wanted = new int[BUSES];
        int enrolled;
        final Line[] lines = new Line[CUSTOMS * LINES];
        int customs;
        final int[] forced = new int[STAGES];
        final Run[] kinds = new Run[KINDS];
        private final int[] facts = new int[FACTS];
        private final int[] sums = new int[STAGES];

        Town() {
            for (int h = 0; h < HOURS; h++) jams[h] = 10;
            for (int s = 0; s < STAGES; s++) forced[s] = NONE;
            kinds[RUN] = new Run();
            kinds[SHORT] = new ShortRun();
            kinds[EMPTY] = new EmptyRun();
            kinds[EARLY] = new EarlyRun();
            kinds[EXTRA] = new ExtraRun();
            kinds[HIRED] = new HiredRun();
        }

        int enrol(int seat, int owner, int target, int fuel) {
            if (!within(seat, 1, 40) || !within(owner, 0, OWNERS - 1)) return BAD;
            if (!within(target, 0, 9999) || !within(fuel, 0, 9)) return BAD;
            if (enrolled >= BUSES) return FULL;
            int b = enrolled;
            seats[b] = seat;
            owners[b] = owner;
            targets[b] = target;
            fuels[b] = fuel;
            enrolled++;
            return b;
        }

        int adopt(Line[] draft, int many) {
            int c = customs;
            for (int i = 0; i < LINES; i++) lines[c * LINES + i] = i < many ? draft[i] : null;
            customs++;
            return c;
        }

        int wayOf(int a, int b, int hour) {
            return Math.max(1, roads[a * STAGES + b] * jams[hour] / 10);
        }

        int leastTrip(int a, int b, int hour) {
            for (int s = 0; s < STAGES; s++) sums[s] = FAR;
            sums[a] = 0;
            for (int hops = 1; hops < STAGES; hops++) {
                for (int from = 0; from < STAGES; from++) {
                    if (sums[from] == FAR) continue;
                    int start = from == a ? 0 : sums[from] + CHANGE;
                    for (int to = 0; to < STAGES; to++) {
                        if (roads[from * STAGES + to] == 0) continue;
                        sums[to] = Math.min(sums[to], start + wayOf(from, to, hour));
                    }
                }
            }
            return sums[b] == FAR ? STATE : sums[b];
        }

        /** What a KEY says of a BUS, by its facts. */
        int says(int[] known, int key) {
            int place = linePlace(known, key);
            Line line = place < 0 ? null : lines[place];
            return line == null ? PLAIN[key] : line.number;
        }

        /** Where among all lines the one stands by which a KEY says so; -1: by none. */
        int linePlace(int[] known, int key) {
            int c = forced[known[FACT_STAGE]];
            int last = -1;
            if (c < 0 || c >= customs) return last;
            for (int i = 0; i < LINES; i++) {
                Line line = lines[c * LINES + i];
                if (line != null && line.key == key && line.holds(known)) last = c * LINES + i;
            }
            return last;
        }

        /** What TESTS look at, in the order of FACT_WORDS: a row that is used again for the next BUS. */
        int[] factsOf(World w, int b) {
            Ride ride = w.rides[b];
            facts[0] = w.minute - ride.since;
            facts[1] = ride.sold;
            facts[2] = w.rain;
            facts[3] = w.hour();
            facts[4] = w.inLine(ride.stage);
            facts[FACT_STAGE] = ride.stage;
            facts[6] = owners[b];
            facts[7] = ride.earned;
            return facts;
        }

        /** Where most wait to go, by a ROAD; -1 if there is none. */
        int mostWanted(World w, int stage) {
            int aim = -1;
            for (int to = 0; to < STAGES; to++) {
                if (roads[stage * STAGES + to] == 0) continue;
                if (aim < 0 || w.crowds[stage * STAGES + to] > w.crowds[stage * STAGES + aim]) aim = to;
            }
            return aim;
        }

        void pass(World w) {
            comeAndWalk(w);
            for (int s = 0; s < STAGES; s++) serve(w, s);
            for (int b = 0; b < enrolled; b++) move(w, b);
            for (int i = 0; i < STAGES * STAGES; i++) w.waited += w.crowds[i];
            if (w.minute % DAY == DAY - 1) {
                for (int b = 0; b < enrolled; b++) settle(w, b);
            }
            w.minute++;
        }

        private void comeAndWalk(World w) {
            for (int i = 0; i < STAGES * STAGES; i++) {
                int part = w.parts[i] + rates[i];
                w.crowds[i] += part / 100;
                w.parts[i] = part % 100;
                if (w.minute % 10 != 9) continue;
                int walk = w.rain == 1 ? w.crowds[i] / 50 : w.crowds[i] / 10;
                w.crowds[i] -= walk;
                w.walked += walk;
            }
        }

        private void serve(World w, int stage) {
            int b = w.loadingAt(stage);
            if (b < 0) b = callUp(w, stage);
            if (b < 0) return;
            Ride ride = w.rides[b];
            Run kind = kinds[ride.kind];
            if (kind.carries()) letIn(w, b);
            int[] known = factsOf(w, b);
            if (100 * ride.sold >= kind.needOf(says(known, GO)) * seats[b]) {
                leave(w, b, says(known, FARE));
            }
        }

        /** The BUS that begins to LOAD at a STAGE; -1 if none does. */
        private int callUp(World w, int stage) {
            int b = w.firstInLine(stage);
            int aim = mostWanted(w, stage);
            if (b < 0 || aim < 0) return -1;
            Ride ride = w.rides[b];
            ride.state = LOADS;
            ride.since = w.minute;
            ride.aim = aim;
            ride.kind = wanted[b];
            return b;
        }

        private void letIn(World w, int b) {
            Ride ride = w.rides[b];
            int pair = ride.stage * STAGES + ride.aim;
            int come = Math.min(COME_IN, Math.min(w.crowds[pair], seats[b] - ride.sold));
            w.crowds[pair] -= come;
            ride.sold += come;
        }

        private void leave(World w, int b, int fare) {
            Ride ride = w.rides[b];
            Run kind = kinds[ride.kind];
            ride.state = RUNS;
            ride.earned += kind.takings(fare, ride.sold);
            ride.left = kind.minutesOf(wayOf(ride.stage, ride.aim, w.hour()));
            ride.spent += kind.fuelOf(fuels[b]) * ride.left;
            ride.runs++;
        }

        private void move(World w, int b) {
            Ride ride = w.rides[b];
            if (ride.state == HELD && w.minute >= ride.since) {
                ride.state = RUNS;
            } else if (ride.state == RUNS) {
                ride.left--;
                if (ride.left <= 0) arrive(w, b);
            }
        }

        private void arrive(World w, int b) {
            Ride ride = w.rides[b];
            boolean turnsBack = kinds[ride.kind].turnsBack();
            int walk = turnsBack ? ride.sold / 2 : 0;
            w.walked += walk;
            w.ridden += ride.sold - walk;
            w.lineUp(b, turnsBack ? ride.stage : ride.aim);
        }

        private void settle(World w, int b) {
            Ride ride = w.rides[b];
            int over = ride.earned - ride.spent - targets[b];
            if (over < 0) {
                ride.owes -= over;
            } else {
                int paid = Math.min(over, ride.owes);
                long hundredths = Math.min(100, says(factsOf(w, b), KEEP));
                ride.owes -= paid;
                ride.kept += (int) ((over - paid) * hundredths / 100);
            }
            ride.earned = 0;
            ride.spent = 0;
        }
    }
}
