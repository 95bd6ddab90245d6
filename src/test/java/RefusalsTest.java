/**
 * Each refused call of promises 2 to 44, in the order in which its promise names the refusals: its answer, and a look
 * that nothing has changed. Of each number the last values that are allowed are not refused.
 */
public final class RefusalsTest extends Testing {
    private static final int RUNS = 0, LOADS = 1, HELD = 2, QUEUES = 3, LATER = 4, RESTS = 5, RESTS_TOO = 6, BUSES = 7;
    private static final int BOOKS = 3, CUSTOMS = 2, MEMBERS = 4;
    private static final Looks.Town FRESH = FillAndGo::new, BUSY = RefusalsTest::busy, LAST = RefusalsTest::lastMinute,
        FULL_OF_BUSES = RefusalsTest::fullOfBuses, FULL_OF_CUSTOMS = RefusalsTest::fullOfCustoms,
        FULL_TAPE = RefusalsTest::fullTape, FULL_OF_BOOKS = RefusalsTest::fullOfBooks,
        ALL_STOPPED = RefusalsTest::allStopped, NO_SIZE = RefusalsTest::emptySheets, ONE_BUS = () -> withBuses(1),
        LATE = () -> passTo(busy(), 14300);

    public static void main(String[] args) {
        busyTownIsAsTold();
        roadJamPeopleRain();
        bus();
        queueAndRest();
        jump();
        hold();
        wants();
        feedAndCustom();
        forceLawWhy();
        minutes();
        looking();
        trip();
        foretell();
        beside();
        plan();
        planOfSheets();
        gainAndFights();
        part();
        savings();
        booksAndImages();
        told();
        sheet();
        cell();
        copy();
        buses();
        taken();
        end();
    }

    // ---- how it is looked at

    private static void refused(Looks.Town town, long want, String name, long... numbers) {
        due(Looks.written(name, numbers), Looks.ask(town.made(), name, numbers), want);
        unchanged(town, name, numbers);
    }

    private static void unchanged(Looks.Town town, String name, long... numbers) {
        String changed = Looks.changedBy(town, name, numbers);
        due(Looks.written(name, numbers) + " changed: " + changed, changed.length(), 0);
    }

    /** The number at a place is refused on both sides of least .. most, near and far; the bounds themselves are not. */
    private static void range(Looks.Town town, long want, int place, int least, int most, String name, long... numbers) {
        long[] told = numbers.clone();
        for (long outside : new long[] {least - 1L, most + 1L, Integer.MIN_VALUE, Integer.MAX_VALUE}) {
            told[place] = outside;
            refused(town, want, name, told);
        }
        for (long inside : new long[] {least, most}) {
            told[place] = inside;
            long got = Looks.ask(town.made(), name, told);
            due(Looks.written(name, told) + " is refused", got == want ? 1 : 0, 0);
        }
    }

    // ---- towns

    /** BUSES of each STATE; something told of everything. */
    private static FillAndGo busy() {
        FillAndGo x = new FillAndGo();
        x.road(0, 1, 10);
        x.road(1, 2, 7);
        x.road(0, 3, 20);
        x.road(4, 5, 60);
        x.jam(0, 12);
        x.jam(1, 15);
        x.people(0, 1, 90);
        x.people(1, 0, 55);
        x.people(1, 2, 71);
        x.people(4, 5, 33);
        int[][] buses = {{5, 0, 40, 2}, {40, 1, 100, 1}, {3, 2, 0, 0}, {9, 3, 7, 3}, {6, 4, 0, 1}, {4, 5, 9999, 9}, {2, 0, 1, 1}};
        for (int[] b : buses) x.bus(b[0], b[1], b[2], b[3]);
        x.wants(RUNS, 5);
        x.wants(HELD, 2);
        x.wants(QUEUES, 4);
        x.queue(RUNS, 4);
        x.queue(LOADS, 0);
        x.queue(HELD, 1);
        x.queue(QUEUES, 0);
        x.queue(LATER, 0);
        x.queue(RESTS_TOO, 4);
        x.rest(RESTS_TOO);
        forceText(x, 0, "go=40?waited>50/fare=25/keep=50?earned>9");
        forceText(x, 1, "fare=33?rain=1/go=90?queue>1");
        x.minutes(5);
        x.image();
        x.minutes(2);
        x.hold(HELD, 33);
        x.rain(1);
        savingsAndBooks(x);
        sheetOf(x, 0, 2, RESTS, 1, RESTS_TOO, 1);
        sheetOf(x, 1, 0, 7, 1, 11, 2, 9, 3, 22, 4);
        sheetOf(x, 2, 1, 5, 2, 3333, 6);
        x.plan(0, 2, 20);
        feedText(x, "go=7?so");
        return x;
    }

    private static void savingsAndBooks(FillAndGo x) {
        x.gain(0, 1, 10);
        x.gain(1, 1, 12);
        x.gain(3, 2, 9);
        x.fights(11);
        x.round(MEMBERS, 7);
        x.turns();
        x.stops(2);
        x.turns();
        x.book(0, 0, 100);
        x.book(0, 9, 20);
        x.book(RESTS, 3, 1000000);
        x.mend(0, 50);
    }

    private static void busyTownIsAsTold() {
        by("the town that is looked at");
        FillAndGo x = busy();
        int[] states = {3, 2, 4, 1, 1, 0, 0};
        for (int b = 0; b < BUSES; b++) due("STATE of " + b, x.busTold(b, 0), states[b]);
        due("who is next", x.stageTold(0, 1), QUEUES);
        int[] counts = {7, BUSES, x.count(2), 0, x.count(4), CUSTOMS, 7, BOOKS, 1, MEMBERS};
        for (int what = 0; what < 10; what++) due("count(" + what + ")", x.count(what), counts[what]);
        due("a set is planned", x.planned() > 0 ? 1 : 0, 1);
        by("a look sees what has changed");
        long[][] changes = {{0, 1, 11}, {0, 2, 1}, {5, 4, 59}};
        for (long[] c : changes) due("road", Looks.changedBy(BUSY, "road", c).isEmpty() ? 1 : 0, 0);
        String[] names = {"turns", "custom", "image", "back"};
        for (String name : names) due(name, Looks.changedBy(BUSY, name).isEmpty() ? 1 : 0, 0);
        due("minutes", Looks.changedBy(BUSY, "minutes", 1).isEmpty() ? 1 : 0, 0);
        due("gain", Looks.changedBy(BUSY, "gain", 5, 3, 1).isEmpty() ? 1 : 0, 0);
        due("cell", Looks.changedBy(BUSY, "cell", 1, 2, 12).isEmpty() ? 1 : 0, 0);
        due("wants", Looks.changedBy(BUSY, "wants", RESTS, 1).isEmpty() ? 1 : 0, 0);
        due("feed", Looks.changedBy(BUSY, "feed", 'l', 1).isEmpty() ? 1 : 0, 0);
        due("book", Looks.changedBy(BUSY, "book", 1, 1, 1).isEmpty() ? 1 : 0, 0);
    }

    private static FillAndGo lastMinute() {
        return passTo(busy(), 14400);
    }

    private static FillAndGo fullOfBuses() {
        FillAndGo x = busy();
        for (int b = BUSES; b < 12; b++) x.bus(b, 0, b, 1);
        return x;
    }

    private static FillAndGo fullOfCustoms() {
        FillAndGo x = busy();
        feedText(x, "ld<4");
        x.custom();
        for (int c = CUSTOMS + 1; c < 6; c++) customOf(x, "go=" + c);
        feedText(x, "go=9");
        return x;
    }

    private static FillAndGo fullTape() {
        FillAndGo x = busy();
        feedText(x, "ld<4".repeat(38));
        return x;
    }

    private static FillAndGo fullOfBooks() {
        FillAndGo x = busy();
        for (int k = BOOKS; k < 30; k++) x.book(1, 5, k);
        return x;
    }

    private static FillAndGo allStopped() {
        FillAndGo x = busy();
        x.stops(0);
        x.stops(1);
        x.stops(3);
        return x;
    }

    private static FillAndGo emptySheets() {
        FillAndGo x = busy();
        x.sheet(0, 0, 0);
        x.sheet(1, 0, 40);
        x.sheet(2, 2, 1);
        return x;
    }

    // ---- 2 .. 6

    private static void roadJamPeopleRain() {
        by("2 road: NONE: STAGES; BAD: alike, minutes");
        range(BUSY, NONE, 0, 0, 5, "road", 0, 2, 5);
        range(BUSY, NONE, 1, 0, 5, "road", 2, 0, 5);
        refused(BUSY, NONE, "road", 6, 6, 61);
        refused(BUSY, NONE, "road", 0, 6, -1);
        refused(BUSY, NONE, "road", -1, 0, 61);
        for (int s = 0; s < 6; s++) refused(BUSY, BAD, "road", s, s, 5);
        range(BUSY, BAD, 2, 0, 60, "road", 0, 1, 0);
        by("3 jam: BAD: hour (0 .. 23), tenths");
        range(BUSY, BAD, 0, 0, 23, "jam", 0, 20);
        range(BUSY, BAD, 1, 1, 50, "jam", 0, 0);
        by("4 people: NONE: STAGES; BAD: alike, tenths");
        range(BUSY, NONE, 0, 0, 5, "people", 0, 2, 5);
        range(BUSY, NONE, 1, 0, 5, "people", 2, 0, 5);
        refused(BUSY, NONE, "people", 6, 6, 100);
        refused(BUSY, NONE, "people", 0, -1, 100);
        refused(BUSY, NONE, "people", -1, 0, -1);
        for (int s = 0; s < 6; s++) refused(BUSY, BAD, "people", s, s, 5);
        range(BUSY, BAD, 2, 0, 99, "people", 0, 1, 0);
        by("5 rain: BAD");
        range(BUSY, BAD, 0, 0, 1, "rain", 0);
    }

    private static void bus() {
        by("6 bus: BAD: SEATS, OWNER, TARGET, FUEL; FULL");
        int[] least = {1, 0, 0, 0}, most = {40, 5, 9999, 9};
        for (int place = 0; place < 4; place++) {
            range(BUSY, BAD, place, least[place], most[place], "bus", 1, 0, 0, 0);
            range(FULL_OF_BUSES, BAD, place, least[place], most[place], "bus", 1, 0, 0, 0);
        }
        refused(FULL_OF_BUSES, FULL, "bus", 1, 0, 0, 0);
        refused(FULL_OF_BUSES, FULL, "bus", 40, 5, 9999, 9);
    }

    // ---- 7 .. 11

    private static void queueAndRest() {
        by("7 queue: NONE; STATE");
        range(BUSY, NONE, 0, 0, BUSES - 1, "queue", 0, 0);
        range(BUSY, NONE, 1, 0, 5, "queue", RESTS, 0);
        refused(FRESH, NONE, "queue", 0, 0);
        refused(BUSY, NONE, "queue", QUEUES, 6);
        refused(BUSY, NONE, "queue", RUNS, -1);
        for (int b = RUNS; b <= LATER; b++) refused(BUSY, STATE, "queue", b, 5);
        by("8 rest: NONE; STATE");
        range(BUSY, NONE, 0, 0, BUSES - 1, "rest", 0);
        refused(FRESH, NONE, "rest", 0);
        for (int b : new int[] {RUNS, LOADS, HELD, RESTS, RESTS_TOO}) refused(BUSY, STATE, "rest", b);
    }

    private static void jump() {
        by("9 jump: NONE; BAD: cost (0 .. 9999); STATE; -6: it is the first");
        range(BUSY, NONE, 0, 0, BUSES - 1, "jump", 0, 1);
        refused(FRESH, NONE, "jump", 0, 0);
        refused(BUSY, NONE, "jump", BUSES, -1);
        refused(BUSY, NONE, "jump", -1, 10000);
        for (int b = 0; b < BUSES; b++) range(BUSY, BAD, 1, 0, 9999, "jump", b, 0);
        for (int b : new int[] {RUNS, LOADS, HELD, RESTS, RESTS_TOO}) refused(BUSY, STATE, "jump", b, 5);
        refused(BUSY, -6, "jump", QUEUES, 0);
        refused(BUSY, -6, "jump", QUEUES, 9999);
    }

    private static void hold() {
        by("10 hold: NONE; BAD; STATE");
        range(BUSY, NONE, 0, 0, BUSES - 1, "hold", 0, 1);
        refused(FRESH, NONE, "hold", 0, 1);
        refused(BUSY, NONE, "hold", BUSES, 0);
        refused(BUSY, NONE, "hold", -1, 601);
        for (int b = 0; b < BUSES; b++) range(BUSY, BAD, 1, 1, 600, "hold", b, 0);
        for (int b : new int[] {LOADS, HELD, QUEUES, LATER, RESTS}) refused(BUSY, STATE, "hold", b, 1);
    }

    private static void wants() {
        by("11 wants: NONE; BAD");
        range(BUSY, NONE, 0, 0, BUSES - 1, "wants", 0, 1);
        refused(FRESH, NONE, "wants", 0, 0);
        refused(BUSY, NONE, "wants", BUSES, 6);
        refused(BUSY, NONE, "wants", -1, -1);
        for (int b = 0; b < BUSES; b++) range(BUSY, BAD, 1, 0, 5, "wants", b, 0);
    }

    // ---- 12 .. 17

    private static void feedAndCustom() {
        by("12 feed: BAD: n not 1 .. 8; FULL");
        range(BUSY, BAD, 1, 1, 8, "feed", 0x3c3435L, 0);
        range(FULL_TAPE, BAD, 1, 1, 8, "feed", 0x3c3435L, 0);
        due("THE TAPE but for a byte", fullTape().count(6), 159);
        for (int n = 2; n <= 8; n++) refused(FULL_TAPE, FULL, "feed", -1L, n);
        FillAndGo x = fullTape();
        due("the last byte", x.feed('5', 1), 160);
        for (int n = 1; n <= 8; n++) due("none behind it", x.feed('5', n), FULL);
        due("count(6)", x.count(6), 160);
        by("13 custom: FULL (ahead of the FAULT; then THE TAPE stays)");
        refused(FULL_OF_CUSTOMS, FULL, "custom");
        FillAndGo y = fullOfCustoms();
        y.feed('x', 1);
        due("with a FAULT", y.custom(), FULL);
        due("THE TAPE stays", y.count(6), 5);
        due("once more", y.custom(), FULL);
        due("with nothing", fullOfCustomsWithoutTape().custom(), FULL);
        by("13 custom: -100 less the place of its FAULT: no CUSTOM comes, THE TAPE is empty then");
        FillAndGo z = busy();
        due("the busy town's", z.custom(), -107);
        due("CUSTOMS", z.count(5), CUSTOMS);
        due("THE TAPE", z.count(6), 0);
        due("the next number", customOf(z, "go=5"), CUSTOMS);
    }

    private static FillAndGo fullOfCustomsWithoutTape() {
        FillAndGo x = new FillAndGo();
        for (int c = 0; c < 6; c++) customOf(x, "go=1");
        return x;
    }

    private static void forceLawWhy() {
        by("14 force: -5: STAGE; BAD");
        range(BUSY, -5, 0, 0, 5, "force", 0, 1);
        refused(BUSY, -5, "force", 6, CUSTOMS);
        refused(BUSY, -5, "force", -1, -2);
        for (int s = 0; s < 6; s++) range(BUSY, BAD, 1, -1, CUSTOMS - 1, "force", s, 0);
        range(FRESH, BAD, 1, -1, -1, "force", 0, 0);
        range(FULL_OF_CUSTOMS, BAD, 1, -1, 5, "force", 0, 0);
        by("15 law: NONE; BAD");
        range(BUSY, NONE, 0, 0, BUSES - 1, "law", 0, 1);
        refused(FRESH, NONE, "law", 0, 0);
        refused(BUSY, NONE, "law", BUSES, 3);
        refused(BUSY, NONE, "law", -1, -1);
        range(BUSY, BAD, 1, 0, 2, "law", 0, 0);
        by("16 why: -5: BUS; BAD; NONE: by none");
        range(BUSY, -5, 0, 0, BUSES - 1, "why", 0, 1);
        refused(FRESH, -5, "why", 0, 0);
        refused(BUSY, -5, "why", BUSES, 3);
        refused(BUSY, -5, "why", -1, -1);
        range(BUSY, BAD, 1, 0, 2, "why", 0, 0);
        refused(BUSY, NONE, "why", RUNS, 0);
        refused(BUSY, NONE, "why", LOADS, 0);
    }

    private static void minutes() {
        by("17 minutes: BAD; FULL: beyond 14400");
        range(BUSY, BAD, 0, 1, 200, "minutes", 0);
        range(LAST, BAD, 0, 1, 200, "minutes", 0);
        refused(LAST, FULL, "minutes", 1);
        refused(LAST, FULL, "minutes", 200);
        refused(LATE, FULL, "minutes", 101);
        refused(LATE, FULL, "minutes", 200);
        due("just to the end", LATE.made().minutes(100), 14400);
    }

    // ---- 18 .. 22

    private static void looking() {
        by("18 busTold: -5: no such BUS; -7: what");
        range(BUSY, -5, 0, 0, BUSES - 1, "busTold", 0, 1);
        refused(FRESH, -5, "busTold", 0, 0);
        refused(BUSY, -5, "busTold", BUSES, 12);
        refused(BUSY, -5, "busTold", -1, -1);
        range(BUSY, -7, 1, 0, 11, "busTold", 0, 0);
        by("19 waiting: NONE; BAD: alike");
        range(BUSY, NONE, 0, 0, 5, "waiting", 0, 2);
        range(BUSY, NONE, 1, 0, 5, "waiting", 2, 0);
        refused(BUSY, NONE, "waiting", 6, 6);
        refused(BUSY, NONE, "waiting", -1, -1);
        for (int s = 0; s < 6; s++) refused(BUSY, BAD, "waiting", s, s);
        by("20 stageTold: -5: STAGE; -7: what");
        range(BUSY, -5, 0, 0, 5, "stageTold", 0, 0);
        refused(BUSY, -5, "stageTold", 6, 4);
        refused(BUSY, -5, "stageTold", -1, -1);
        range(BUSY, -7, 1, 0, 3, "stageTold", 0, 0);
        by("21 kindTold: BAD");
        range(BUSY, BAD, 0, 0, 5, "kindTold", 0, 0, 0);
        range(BUSY, BAD, 1, 0, 3, "kindTold", 0, 0, 0);
        range(BUSY, BAD, 2, 0, 999, "kindTold", 0, 0, 0);
        by("22 count: BAD");
        range(BUSY, BAD, 0, 0, 9, "count", 0);
    }

    // ---- 23 .. 27

    private static void trip() {
        by("23 trip: NONE: STAGES; BAD: alike; STATE: there is no way");
        range(BUSY, NONE, 0, 0, 5, "trip", 0, 2);
        range(BUSY, NONE, 1, 0, 5, "trip", 2, 0);
        refused(BUSY, NONE, "trip", 6, 6);
        refused(BUSY, NONE, "trip", -1, -1);
        for (int s = 0; s < 6; s++) refused(BUSY, BAD, "trip", s, s);
        refused(FRESH, BAD, "trip", 0, 0);
        refused(BUSY, STATE, "trip", 0, 4);
        refused(BUSY, STATE, "trip", 5, 3);
        unchanged(BUSY, "trip", 3, 2);
    }

    private static void foretell() {
        by("24 foretell: NONE; BAD; STATE: none LOADS; -6: not in n");
        range(BUSY, NONE, 0, 0, 5, "foretell", 0, 240);
        refused(BUSY, NONE, "foretell", 6, 0);
        refused(BUSY, NONE, "foretell", -1, 241);
        range(BUSY, BAD, 1, 1, 240, "foretell", 0, 0);
        range(FRESH, BAD, 1, 1, 240, "foretell", 5, 0);
        refused(BUSY, STATE, "foretell", 5, 1);
        refused(BUSY, STATE, "foretell", 4, 240);
        refused(BUSY, -6, "foretell", 0, 1);
        refused(BUSY, -6, "foretell", 0, 5);
        unchanged(BUSY, "foretell", 0, 240);
    }

    private static void beside() {
        by("25 beside: NO: n, rain, what, beyond MINUTE 14400");
        range(BUSY, NO, 0, 1, 240, "beside", 0, 0, 0);
        range(BUSY, NO, 1, 0, 1, "beside", 1, 0, 0);
        range(BUSY, NO, 2, 0, 2, "beside", 1, 0, 0);
        refused(LAST, NO, "beside", 1, 0, 0);
        range(LATE, NO, 0, 1, 100, "beside", 0, 1, 2);
        for (int what = 0; what < 3; what++) unchanged(BUSY, "beside", 240, what % 2, what);
    }

    private static void plan() {
        by("26 plan: NO: SHEET, missing, its size, most, n, beyond MINUTE 14400, no such BUS, STAGE");
        range(BUSY, NO, 0, 0, 0, "plan", 0, 2, 20);
        refused(BUSY, NO, "plan", 4, 2, 20);
        refused(BUSY, NO, "plan", 3, 2, 20);
        range(BUSY, NO, 1, 0, 5, "plan", 0, 0, 20);
        range(BUSY, NO, 2, 1, 120, "plan", 0, 2, 0);
        range(LATE, NO, 2, 1, 100, "plan", 0, 2, 0);
        refused(LAST, NO, "plan", 0, 0, 1);
        by("27 planned: the set of the PLAN that was found last");
        FillAndGo x = busy();
        int set = x.planned();
        x.plan(4, 0, 1);
        x.plan(0, 6, 1);
        x.plan(3, 0, 1);
        due("a PLAN that is not found keeps it", x.planned(), set);
        by("26 plan: BESIDE: nothing changes");
        unchanged(BUSY, "plan", 0, 2, 20);
    }

    /** The PLAN of the busy town by another SHEET, whose numbers are told. */
    private static long planOf(int sort, int... cells) {
        return sheetOf(busy(), 3, sort, cells).plan(3, 5, 20);
    }

    private static void planOfSheets() {
        by("26 plan: its size (two by two; 0 to 5 of them)");
        for (int sort = 0; sort < 3; sort++) {
            for (int size = 0; size <= 40; size++) {
                FillAndGo x = busy();
                x.sheet(3, sort, size);
                boolean fine = size % 2 == 0 && size <= 10;
                due("a SHEET of " + size, x.plan(3, 5, 1) == NO ? 0 : 1, fine ? 1 : 0);
            }
        }
        by("26 plan: no such BUS, STAGE");
        due("BUS 6, STAGE 5", planOf(2, 6, 5) == NO ? 0 : 1, 1);
        due("BUS 0, STAGE 0", planOf(0, 0, 0) == NO ? 0 : 1, 1);
        int[][] none = {{7, 0}, {-1, 0}, {0, 6}, {0, -1}, {0, 0, 7, 0}, {0, 0, 0, 6}, {0, 0, 0, 0, 0, 0, 0, 0, 7, 0},
            {0, 0, 0, 0, 0, 0, 0, 0, 0, 6}, {-128, 0}, {0, 127}};
        for (int[] cells : none) {
            for (int sort = 0; sort < 3; sort++) due("no such", planOf(sort, cells), NO);
        }
        due("also with none at most", sheetOf(busy(), 3, 0, 7, 0).plan(3, 0, 1), NO);
        Looks.Town bad = () -> sheetOf(busy(), 3, 2, RESTS, 1, BUSES, 0);
        refused(bad, NO, "plan", 3, 5, 20);
        Looks.Town odd = () -> sheetOf(busy(), 3, 2, RESTS, 1, RESTS);
        refused(odd, NO, "plan", 3, 5, 20);
    }

    // ---- 28 .. 34

    private static void gainAndFights() {
        by("28 gain: NONE; BAD");
        range(BUSY, NONE, 0, 0, 5, "gain", 0, 0, 1);
        range(BUSY, NONE, 1, 0, 3, "gain", 0, 0, 1);
        refused(BUSY, NONE, "gain", 6, 0, 10000);
        refused(BUSY, NONE, "gain", 0, 4, -1);
        refused(BUSY, NONE, "gain", -1, -1, -1);
        range(BUSY, BAD, 2, 0, 9999, "gain", 5, 3, 0);
        by("29 fights: BAD");
        range(BUSY, BAD, 0, 0, 9999, "fights", 0);
    }

    private static void part() {
        by("30 part: BAD: routes, sides, most; -5: i; STATE: none is QUIET (of -2: 0)");
        range(BUSY, BAD, 0, 1, 6, "part", 0, 4, 6, 0);
        range(BUSY, BAD, 1, 1, 4, "part", 1, 0, 6, 0);
        range(BUSY, BAD, 2, 1, 6, "part", 1, 4, 0, 0);
        refused(BUSY, BAD, "part", 0, 1, 1, -3);
        refused(BUSY, BAD, "part", 1, 5, 1, 1);
        refused(BUSY, BAD, "part", 2, 1, 0, -1);
        for (int routes = 1; routes <= 6; routes++) range(BUSY, -5, 3, -2, routes - 1, "part", routes, 4, 6, 0);
        refused(BUSY, -5, "part", 2, 1, 1, 2);
        refused(BUSY, -5, "part", 2, 1, 1, -3);
        for (int i = -1; i < 2; i++) refused(BUSY, STATE, "part", 2, 1, 1, i);
        refused(BUSY, 0, "part", 2, 1, 1, -2);
        unchanged(BUSY, "part", 6, 4, 6, -1);
    }

    private static void savings() {
        by("31 round: BAD; STATE: there is one");
        range(ONE_BUS, BAD, 0, 2, 6, "round", 0, 1);
        range(ONE_BUS, BAD, 1, 1, 999, "round", 2, 0);
        range(BUSY, BAD, 0, 2, 6, "round", 0, 1);
        range(BUSY, BAD, 1, 1, 999, "round", 2, 0);
        refused(BUSY, STATE, "round", MEMBERS, 7);
        refused(BUSY, STATE, "round", 6, 999);
        refused(ALL_STOPPED, STATE, "round", 2, 1);
        by("32 stops: NONE; STATE: it has");
        range(BUSY, NONE, 0, 0, MEMBERS - 1, "stops", 0);
        refused(ONE_BUS, NONE, "stops", 0);
        refused(BUSY, STATE, "stops", 2);
        for (int m = 0; m < MEMBERS; m++) refused(ALL_STOPPED, STATE, "stops", m);
        refused(ALL_STOPPED, NONE, "stops", MEMBERS);
        by("33 turns: STATE: there is no ROUND; NONE: all have STOPPED");
        refused(ONE_BUS, STATE, "turns");
        refused(ALL_STOPPED, NONE, "turns");
        by("34 saved: -5: no such MEMBER; BAD");
        range(BUSY, -5, 0, 0, MEMBERS - 1, "saved", 0, 0);
        refused(ONE_BUS, -5, "saved", 0, 0);
        refused(ONE_BUS, -5, "saved", 0, 3);
        refused(BUSY, -5, "saved", MEMBERS, 3);
        refused(BUSY, -5, "saved", -1, -1);
        range(BUSY, BAD, 1, 0, 2, "saved", 0, 0);
    }

    // ---- 35 .. 39

    private static void booksAndImages() {
        by("35 book: NONE: BUS; BAD: day, sum; FULL");
        for (Looks.Town town : new Looks.Town[] {BUSY, FULL_OF_BOOKS}) {
            range(town, NONE, 0, 0, BUSES - 1, "book", 0, 0, 0);
            range(town, BAD, 1, 0, 9, "book", 0, 0, 0);
            range(town, BAD, 2, 0, 1000000, "book", 0, 0, 0);
            refused(town, NONE, "book", BUSES, 10, 0);
            refused(town, NONE, "book", -1, 0, -1);
        }
        refused(FRESH, NONE, "book", 0, 0, 0);
        refused(FULL_OF_BOOKS, FULL, "book", 0, 0, 0);
        refused(FULL_OF_BOOKS, FULL, "book", BUSES - 1, 9, 1000000);
        by("36 mend: NONE; BAD; STATE: it was");
        range(BUSY, NONE, 0, 0, BOOKS - 1, "mend", 0, 5);
        range(FULL_OF_BOOKS, NONE, 0, 0, 29, "mend", 0, 5);
        refused(FRESH, NONE, "mend", 0, 0);
        refused(BUSY, NONE, "mend", BOOKS, -1);
        refused(BUSY, NONE, "mend", -1, 1000001);
        range(BUSY, BAD, 1, 0, 1000000, "mend", 1, 0);
        range(BUSY, BAD, 1, 0, 1000000, "mend", 0, 0);
        refused(BUSY, STATE, "mend", 0, 50);
        refused(BUSY, STATE, "mend", 0, 51);
        by("39 back: STATE: there is none");
        refused(FRESH, STATE, "back");
        refused(() -> passTo(withBuses(3), 9), STATE, "back");
    }

    private static void told() {
        by("37 told: NO: BUS, days (0 .. 99, to from or later), known");
        range(BUSY, NO, 0, 0, BUSES - 1, "told", 0, 9, 0);
        refused(FRESH, NO, "told", 0, 9, 0);
        range(BUSY, NO, 1, 0, 99, "told", 0, 0, 0);
        range(BUSY, NO, 2, 0, 7, "told", 0, 9, 0);
        range(ONE_BUS, NO, 2, 0, 0, "told", 0, 9, 0);
        for (int days = 0; days <= 99; days++) {
            boolean fine = days % 10 >= days / 10;
            due("days " + days, busy().told(0, days, 7) == NO ? 0 : 1, fine ? 1 : 0);
        }
        refused(BUSY, NO, "told", 0, 10, 0);
        refused(BUSY, NO, "told", 0, 98, 0);
        unchanged(BUSY, "told", 0, 9, 7);
    }

    // ---- 40 .. 44

    private static void sheet() {
        by("40 sheet: BAD: SHEET, sort, n above 40; -14");
        range(BUSY, BAD, 0, 0, 3, "sheet", 0, 0, 4);
        range(BUSY, BAD, 0, 0, 3, "sheet", 0, -1, 4);
        range(BUSY, BAD, 1, -1, 2, "sheet", 0, 0, 4);
        for (int s = 0; s < 4; s++) {
            for (int sort = 0; sort < 3; sort++) {
                refused(BUSY, BAD, "sheet", s, sort, 41);
                refused(BUSY, BAD, "sheet", s, sort, Integer.MAX_VALUE);
                refused(BUSY, -14, "sheet", s, sort, -1);
                refused(BUSY, -14, "sheet", s, sort, Integer.MIN_VALUE);
                due("n 40", busy().sheet(s, sort, 40), 1);
                due("n 0", busy().sheet(s, sort, 0), 1);
            }
        }
        refused(BUSY, BAD, "sheet", 4, 0, -1);
        refused(BUSY, BAD, "sheet", 0, 3, -1);
        refused(BUSY, BAD, "sheet", 0, -2, -1);
        for (int n : new int[] {Integer.MIN_VALUE, -1, 0, 40, 41, Integer.MAX_VALUE}) {
            due("sort -1: n does not matter", busy().sheet(0, -1, n), 1);
        }
    }

    private static void cell() {
        by("41 cell: BAD: SHEET; -11; -12");
        range(BUSY, BAD, 0, 0, 3, "cell", 0, 0, 1);
        refused(BUSY, BAD, "cell", 4, -1, 1);
        refused(BUSY, -11, "cell", 3, 0, 1);
        refused(BUSY, -11, "cell", 3, -1, 1);
        refused(FRESH, -11, "cell", 0, 40, 1);
        int[] sizes = {4, 8, 4};
        for (int s = 0; s < 3; s++) range(BUSY, -12, 1, 0, sizes[s] - 1, "cell", s, 0, 99);
        refused(NO_SIZE, -12, "cell", 0, 0, 1);
        refused(NO_SIZE, -12, "cell", 0, -1, 1);
        range(NO_SIZE, -12, 1, 0, 39, "cell", 1, 0, 1);
        range(NO_SIZE, -12, 1, 0, 0, "cell", 2, 0, 1);
    }

    private static void copy() {
        by("42 copy: BAD: SHEETS; -11; -13: unlike sorts; -12 (n below 0, too)");
        range(BUSY, BAD, 0, 0, 3, "copy", 0, 0, 0, 0, 1);
        range(BUSY, BAD, 2, 0, 3, "copy", 0, 0, 0, 0, 1);
        refused(BUSY, BAD, "copy", 3, 0, 4, 0, 1);
        refused(BUSY, BAD, "copy", 4, 0, 3, 0, 1);
        refused(BUSY, BAD, "copy", -1, -1, 0, 0, -1);
        refused(BUSY, -11, "copy", 3, 0, 0, 0, 1);
        refused(BUSY, -11, "copy", 0, 0, 3, 0, 1);
        refused(BUSY, -11, "copy", 3, 0, 3, 0, 0);
        refused(BUSY, -11, "copy", 3, -1, 0, -1, -1);
        refused(BUSY, -13, "copy", 0, 0, 1, 0, 1);
        refused(BUSY, -13, "copy", 1, 0, 2, 0, 0);
        refused(BUSY, -13, "copy", 2, 9, 0, 9, -1);
        long[][] outside = {{-1, 0, 1}, {0, -1, 1}, {0, 0, -1}, {0, 0, 9}, {8, 0, 1}, {0, 8, 1}, {9, 0, 0}, {0, 9, 0},
            {7, 0, 2}, {0, 7, 2}, {Integer.MAX_VALUE, 0, 1}, {0, Integer.MAX_VALUE, 1}, {1, 0, Integer.MAX_VALUE},
            {Integer.MAX_VALUE, Integer.MAX_VALUE, Integer.MAX_VALUE}, {Integer.MIN_VALUE, 0, 1}, {0, 0, Integer.MIN_VALUE}};
        for (long[] o : outside) refused(BUSY, -12, "copy", 1, o[0], 1, o[1], o[2]);
        long[][] inside = {{0, 0, 8}, {8, 8, 0}, {0, 8, 0}, {8, 0, 0}, {7, 0, 1}, {0, 7, 1}, {1, 0, 7}, {0, 1, 7}};
        for (long[] i : inside) due("inside", Looks.ask(busy(), "copy", 1, i[0], 1, i[1], i[2]), i[2]);
        refused(NO_SIZE, -12, "copy", 1, 39, 0, 0, 1);
        refused(NO_SIZE, -12, "copy", 1, 0, 1, 39, 2);
        due("none into an empty one", emptySheets().copy(1, 40, 0, 0, 0), 0);
    }

    private static void buses() {
        by("43 buses: BAD: SHEET, sort, n; -11; -13; -12: what stood ahead came");
        range(BUSY, BAD, 0, 0, 3, "buses", 0, 2, 0, 1);
        range(BUSY, BAD, 1, 0, 2, "buses", 0, 0, 0, 1);
        range(BUSY, BAD, 3, 0, 10, "buses", 1, 0, 0, 0);
        refused(BUSY, BAD, "buses", 3, 3, 0, 1);
        refused(BUSY, BAD, "buses", 3, 0, 0, 11);
        refused(BUSY, BAD, "buses", 0, 0, -1, -1);
        for (int sort = 0; sort < 3; sort++) refused(BUSY, -11, "buses", 3, sort, 0, 1);
        refused(BUSY, -11, "buses", 3, 0, -1, 1);
        refused(BUSY, -11, "buses", 3, 0, 0, 0);
        int[] sorts = {2, 0, 1};
        for (int s = 0; s < 3; s++) {
            for (int sort = 0; sort < 3; sort++) if (sort != sorts[s]) refused(BUSY, -13, "buses", s, sort, 0, 1);
        }
        refused(BUSY, -13, "buses", 1, 1, -1, 1);
        refused(BUSY, -13, "buses", 1, 2, 99, 10);
        range(BUSY, -12, 2, 0, 4, "buses", 1, 0, 0, 1);
        refused(BUSY, -12, "buses", 1, 0, 8, 1);
        refused(BUSY, -12, "buses", 1, 0, Integer.MAX_VALUE - 3, 10);
        refused(FULL_OF_BUSES, -12, "buses", 1, 0, 0, 3);
        busesAhead();
    }

    private static void busesAhead() {
        FillAndGo x = busy();
        due("the third stands outside", x.buses(1, 0, 0, 3), -12);
        due("what stood ahead came", x.count(1), BUSES + 2);
        x.custom();
        forceText(x, 0, "go=7?owner=1/go=8?owner=3");
        due("the first of them", x.law(BUSES, 0), 7);
        due("the second of them", x.law(BUSES + 1, 0), 8);
        FillAndGo y = busy();
        due("half of the second stands outside", y.buses(1, 0, 2, 2), -12);
        due("the first came", y.count(1), BUSES + 1);
        FillAndGo z = busy();
        due("none", z.buses(1, 0, 0, 0), 0);
        due("none, wherever it begins", z.buses(1, 0, 99, 0), 0);
        due("none came", z.count(1), BUSES);
    }

    private static void taken() {
        by("44 taken: BAD: KIND; -11: no such BUS; -13 (also if it RESTS or QUEUES)");
        for (int b = 0; b < BUSES; b++) range(BUSY, BAD, 1, 0, 5, "taken", b, 0);
        refused(BUSY, BAD, "taken", BUSES, 6);
        refused(BUSY, BAD, "taken", -1, -1);
        range(BUSY, -11, 0, 0, BUSES - 1, "taken", 0, 0);
        refused(FRESH, -11, "taken", 0, 0);
        for (int b : new int[] {QUEUES, LATER, RESTS, RESTS_TOO}) {
            for (int kind = 0; kind < 6; kind++) refused(BUSY, -13, "taken", b, kind);
        }
        int[][] others = {{RUNS, 1}, {RUNS, 3}, {RUNS, 4}, {LOADS, 1}, {LOADS, 2}, {LOADS, 3}, {LOADS, 4}, {LOADS, 5},
            {HELD, 1}, {HELD, 3}, {HELD, 4}, {HELD, 5}};
        for (int[] o : others) refused(BUSY, -13, "taken", o[0], o[1]);
        int[][] fine = {{RUNS, 5, 5}, {RUNS, 2, 5}, {RUNS, 0, 5}, {LOADS, 0, 0}, {HELD, 2, 2}, {HELD, 0, 2}};
        for (int[] f : fine) refused(BUSY, f[2], "taken", f[0], f[1]);
    }
}
