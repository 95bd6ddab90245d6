/** The sentences of "Terms", 4, from the BOOKS on, and of promises 35 to 44, that name a boundary: each by itself. */
public final class KeptTest extends Testing {
    private static final int BYTES = 0, SHORTS = 1, INTS = 2;

    public static void main(String[] args) {
        thirtyBooks();
        smallestAndLargestSums();
        daysFromTo();
        knownFromThenOn();
        mendedOnce();
        knownUpToThisMinute();
        booksOfABus();
        imageKeeps();
        imageKeepsNothingElse();
        busesThatCameSince();
        imageAtFirstAndAtLast();
        latestImage();
        sheetsAreMissingAtFirst();
        sheetOfEachSize();
        sheetIsAllZero();
        sheetBecomesMissing();
        lowestEightBits();
        lowestSixteenBits();
        intsAsTheyAre();
        copyAsTheyWere();
        copyToAnother();
        busesFourByFour();
        busesFromAPlaceOn();
        othersAreLeftOut();
        noRoomForMore();
        noneToTen();
        takenForEachKind();
        takenInEachState();
        end();
    }

    // ---- 35 .. 37

    private static void thirtyBooks() {
        by("BOOKS (30 at most)");
        FillAndGo x = withBuses(1);
        for (int k = 0; k < 30; k++) {
            due("not yet", x.mend(k, 0), NONE);
            due("a BOOK: its number", x.book(0, k % 10, 1000000), k);
            due("how many", x.count(7), k + 1);
        }
        due("a 31st", x.book(0, 0, 0), FULL);
        due("how many", x.count(7), 30);
        due("no 31st", x.mend(30, 0), NONE);
        due("all sums", x.told(0, 9, 0), 30000000);
        for (int k = 0; k < 30; k++) due("each can be MENDED", x.mend(k, 0), 1000000);
        due("all sums", x.told(0, 9, 0), 0);
        due("MENDED ones leave no room", x.book(0, 0, 0), FULL);
    }

    private static void smallestAndLargestSums() {
        by("a sum (0 .. 1000000)");
        FillAndGo x = withBuses(1);
        due("book(0, 0, 0)", x.book(0, 0, 0), 0);
        due("book(0, 9, 1000000)", x.book(0, 9, 1000000), 1);
        due("all", x.told(0, 9, 0), 1000000);
        due("mend(0, 1000000)", x.mend(0, 1000000), 0);
        due("all", x.told(0, 9, 0), 2000000);
        due("mend(1, 0)", x.mend(1, 0), 1000000);
        due("all", x.told(0, 9, 0), 1000000);
    }

    private static void daysFromTo() {
        by("All sums of a BUS's BOOKS of days from .. to (told as 10 * from + to)");
        FillAndGo x = withBuses(1);
        for (int day = 0; day < 10; day++) x.book(0, day, 1 << day);
        for (int from = 0; from < 10; from++) {
            for (int to = 0; to < 10; to++) {
                long sums = 0;
                for (int day = from; day <= to; day++) sums += 1 << day;
                due("days " + from + " to " + to, x.told(0, 10 * from + to, 0), to < from ? NO : sums);
            }
        }
        due("below", x.told(0, -1, 0), NO);
        due("above", x.told(0, 100, 0), NO);
        due("above: 109", x.told(0, 109, 0), NO);
    }

    private static void knownFromThenOn() {
        by("told in a MINUTE; MENDED once, told in a MINUTE: KNOWN from then on");
        FillAndGo x = passTo(withBuses(1), 10);
        x.book(0, 0, 5);
        passTo(x, 20);
        x.mend(0, 7);
        passTo(x, 30);
        int[][] edges = {{0, 0}, {9, 0}, {10, 5}, {11, 5}, {19, 5}, {20, 7}, {21, 7}, {30, 7}};
        for (int[] e : edges) due("KNOWN in " + e[0], x.told(0, 0, e[0]), e[1]);
        FillAndGo y = passTo(withBuses(1), 10);
        y.book(0, 0, 5);
        due("in its own MINUTE", y.told(0, 0, 10), 5);
        y.mend(0, 7);
        due("MENDED in its own MINUTE", y.told(0, 0, 10), 7);
        due("ahead of it", y.told(0, 0, 9), 0);
        by("MENDED in MINUTE 0");
        FillAndGo z = withBuses(1);
        z.book(0, 0, 5);
        due("not MENDED", z.told(0, 0, 0), 5);
        z.mend(0, 0);
        due("MENDED to 0", z.told(0, 0, 0), 0);
        due("once", z.mend(0, 0), STATE);
    }

    private static void mendedOnce() {
        by("A BOOK is MENDED: its sum as it was told .. STATE: it was");
        FillAndGo x = withBuses(1);
        x.book(0, 0, 5);
        x.book(0, 0, 6);
        due("its sum as it was told", x.mend(0, 5), 5);
        due("also if it is the same", x.mend(0, 5), STATE);
        due("the other one", x.mend(1, 7), 6);
        x.image();
        x.minutes(1);
        x.back();
        due("it stays MENDED", x.mend(1, 8), STATE);
    }

    private static void knownUpToThisMinute() {
        by("as KNOWN in a MINUTE (0 .. this one)");
        FillAndGo x = withBuses(1);
        due("MINUTE 0", x.told(0, 9, 0), 0);
        due("the next one", x.told(0, 9, 1), NO);
        due("below", x.told(0, 9, -1), NO);
        passTo(x, 14400);
        due("the last one", x.told(0, 9, 14400), 0);
        due("beyond", x.told(0, 9, 14401), NO);
        x.book(0, 9, 3);
        due("told in the last one", x.told(0, 9, 14400), 3);
        due("ahead of it", x.told(0, 9, 14399), 0);
    }

    private static void booksOfABus() {
        by("All sums of a BUS's BOOKS");
        FillAndGo x = withBuses(12);
        for (int b = 0; b < 12; b++) x.book(b, 4, 100 + b);
        for (int b = 0; b < 12; b++) due("BUS " + b, x.told(b, 44, 0), 100 + b);
        x.book(11, 4, 1000);
        due("two of one", x.told(11, 44, 0), 1111);
        FillAndGo y = withBuses(1);
        due("no BOOK", y.told(0, 9, 0), 0);
    }

    // ---- 38, 39

    private static FillAndGo town() {
        FillAndGo x = oneBus(20, 5, 4, 1);
        for (int b = 1; b < 5; b++) x.bus(40, b, 10 * b, 1);
        x.people(0, 1, 77);
        x.people(5, 4, 35);
        x.wants(4, 2);
        for (int b = 1; b < 4; b++) x.queue(b, 5);
        passTo(x, 1443);
        x.road(5, 4, 9);
        x.queue(4, 4);
        x.jump(3, 11);
        x.minutes(2);
        x.hold(0, 50);
        return x;
    }

    private static FillAndGo imaged() {
        FillAndGo x = town();
        x.image();
        return x;
    }

    private static void sameAs(Looks.Town town, Looks.Town other) {
        String unlike = Looks.between(town, other);
        due("it is unlike: " + unlike, unlike.length(), 0);
    }

    private static void imageKeeps() {
        by("All that it keeps is as in THE IMAGE");
        int[] states = {4, 1, 1, 2, 3};
        FillAndGo t = town();
        for (int b = 0; b < 5; b++) due("STATE of " + b, t.busTold(b, 0), states[b]);
        due("image()", t.image(), 1445);
        Looks.Town image = KeptTest::imaged;
        sameAs(image, () -> {
            FillAndGo x = imaged();
            x.back();
            return x;
        });
        sameAs(image, () -> {
            FillAndGo x = imaged();
            x.rain(1);
            x.jump(2, 9999);
            x.rest(1);
            x.queue(1, 0);
            x.hold(4, 600);
            x.minutes(1);
            x.back();
            return x;
        });
        sameAs(image, () -> {
            FillAndGo x = imaged();
            pass(x, 3000);
            x.back();
            return x;
        });
        sameAs(image, () -> {
            FillAndGo x = imaged();
            pass(x, 7);
            x.back();
            pass(x, 1500);
            x.back();
            return x;
        });
    }

    /** Tells all that an IMAGE does not keep. */
    private static FillAndGo tell(FillAndGo x) {
        x.road(0, 1, 6);
        x.jam(0, 11);
        x.jam(5, 30);
        x.people(0, 1, 51);
        for (int b = 0; b < 5; b++) x.wants(b, (b + 1) % 6);
        forceText(x, 5, "go=9/fare=3");
        x.force(0, 0);
        feedText(x, "keep=");
        x.gain(2, 2, 22);
        x.fights(3);
        x.round(3, 4);
        x.turns();
        x.stops(1);
        x.book(3, 3, 33);
        x.book(3, 4, 44);
        x.mend(1, 4);
        sheetOf(x, 0, SHORTS, 0, 0);
        sheetOf(x, 2, BYTES, 9, 5, 99, 9);
        x.plan(0, 1, 5);
        return x;
    }

    private static void imageKeepsNothingElse() {
        by("AN IMAGE keeps .. and of BUSES all but SEATS, OWNER, TARGET, FUEL, what they WANT (nothing else)");
        sameAs(() -> tell(imaged()), () -> {
            FillAndGo x = tell(imaged());
            x.back();
            return x;
        });
        sameAs(() -> tell(imaged()), () -> {
            FillAndGo x = tell(imaged());
            pass(x, 99);
            x.back();
            return x;
        });
    }

    private static void busesThatCameSince() {
        by("(BUSES that came since REST, as at first)");
        Looks.Town more = () -> {
            FillAndGo x = imaged();
            for (int b = 5; b < 12; b++) x.bus(2, 1, 7, 1);
            return x;
        };
        sameAs(more, () -> {
            FillAndGo x = more.made();
            for (int b = 5; b < 12; b++) x.queue(b, b % 6);
            x.jump(11, 5);
            pass(x, 2000);
            x.back();
            return x;
        });
        FillAndGo y = imaged();
        y.bus(2, 1, 7, 1);
        y.wants(5, 2);
        y.queue(5, 5);
        pass(y, 9);
        due("back()", y.back(), 1445);
        dueOfBus("as at first", y, 5, 0, 0, -1000000, 0, 0, 0, 0, 0, 0, 0, 0, 0);
        due("BUSES", y.count(1), 6);
        due("the number that a STAGE gives", y.queue(5, 5), 3);
        due("what it WANTS is not kept", y.wants(5, 0), 2);
    }

    private static void imageAtFirstAndAtLast() {
        by("AN IMAGE is kept: MINUTE");
        FillAndGo x = new FillAndGo();
        due("none yet", x.back(), STATE);
        due("of nothing", x.image(), 0);
        x.people(0, 1, 99);
        x.rain(1);
        x.bus(9, 0, 0, 0);
        x.queue(0, 3);
        passTo(x, 14400);
        due("no MINUTE is left", x.minutes(1), FULL);
        due("back to MINUTE 0", x.back(), 0);
        for (int what : new int[] {0, 2, 3, 4, 8}) due("count(" + what + ")", x.count(what), 0);
        due("who waits", x.waiting(0, 1), 0);
        due("the number that a STAGE gives", x.queue(0, 3), 0);
        due("MINUTES are left again", x.minutes(200), 200);
        passTo(x, 14400);
        due("of the last MINUTE", x.image(), 14400);
        due("back to it", x.back(), 14400);
        due("none is left", x.minutes(1), FULL);
    }

    private static void latestImage() {
        by("THE IMAGE");
        FillAndGo x = new FillAndGo();
        x.image();
        x.minutes(5);
        due("image()", x.image(), 5);
        x.minutes(5);
        due("the latest", x.back(), 5);
        due("again", x.back(), 5);
        x.minutes(3);
        due("and again", x.back(), 5);
    }

    // ---- 40, 41

    private static void sheetsAreMissingAtFirst() {
        by("SHEETS 0 .. 3 are rows of numbers, or missing (as all are at first)");
        FillAndGo x = new FillAndGo();
        for (int s = 0; s < 4; s++) {
            due("cell", x.cell(s, 0, 0), -11);
            due("copy", x.copy(s, 0, s, 0, 0), -11);
            due("plan", x.plan(s, 0, 1), NO);
            for (int sort = 0; sort < 3; sort++) due("buses", x.buses(s, sort, 0, 0), -11);
        }
    }

    private static void sheetOfEachSize() {
        by("A SHEET becomes a row of n of a sort .. 40 at most");
        for (int sort = 0; sort < 3; sort++) {
            for (int n : new int[] {0, 1, 39, 40}) {
                FillAndGo x = new FillAndGo();
                due("sheet", x.sheet(3, sort, n), 1);
                for (int i = 0; i < n; i++) due("within", x.cell(3, i, i), 1);
                due("just behind", x.cell(3, n, 0), -12);
                due("ahead", x.cell(3, -1, 0), -12);
                due("of its sort", x.buses(3, sort, 0, 0), 0);
                due("of no other", x.buses(3, (sort + 1) % 3, 0, 0), -13);
            }
            due("one too many", new FillAndGo().sheet(3, sort, 41), BAD);
            due("below 0", new FillAndGo().sheet(3, sort, -1), -14);
        }
    }

    /**
     * The first n numbers of SHEET 0 as they stand there, -1 for one that is no TARGET: each is copied to where a BUS
     * has its TARGET, and the BUS OWES it when the DAY is over. Twelve BUSES at a time; SHEET 3 is written over.
     */
    private static int[] numbersOf(Looks.Town town, int sort, int n) {
        int[] numbers = new int[n];
        for (int first = 0; first < n; first += 12) {
            FillAndGo x = town.made();
            sheetOf(x, 3, sort, 1, 0, 0, 0);
            int[] bus = new int[n];
            for (int i = first; i < n && i < first + 12; i++) {
                x.copy(0, i, 3, 2, 1);
                bus[i] = x.buses(3, sort, 0, 1) == 1 ? x.count(1) - 1 : -1;
            }
            passTo(x, 1440);
            for (int i = first; i < n && i < first + 12; i++) numbers[i] = bus[i] < 0 ? -1 : x.busTold(bus[i], 9);
        }
        return numbers;
    }

    private static void dueNumbers(Looks.Town town, int sort, int... want) {
        int[] got = numbersOf(town, sort, want.length);
        for (int i = 0; i < want.length; i++) due("number " + i + " of sort " + sort, got[i], want[i]);
    }

    private static void sheetIsAllZero() {
        by("A SHEET becomes a row of n of a sort, all 0");
        for (int sort = 0; sort < 3; sort++) {
            int of = sort;
            dueNumbers(() -> {
                FillAndGo x = new FillAndGo();
                x.sheet(0, of, 40);
                return x;
            }, sort, new int[40]);
            dueNumbers(() -> {
                FillAndGo x = sheetOf(new FillAndGo(), 0, of, 1, 2, 3, 4, 5);
                x.sheet(0, of, 5);
                return x;
            }, sort, new int[5]);
            dueNumbers(() -> {
                FillAndGo x = sheetOf(new FillAndGo(), 0, INTS, 1, 2, 3, 4, 5);
                x.sheet(0, of, 2);
                x.sheet(0, of, 5);
                return x;
            }, sort, new int[5]);
            dueNumbers(() -> {
                FillAndGo x = sheetOf(new FillAndGo(), 0, of, 1, 2, 3);
                x.sheet(1, of, 3);
                return x;
            }, sort, 1, 2, 3);
        }
    }

    private static void sheetBecomesMissing() {
        by("or missing (sort -1: n does not matter): 1");
        for (int n : new int[] {Integer.MIN_VALUE, -1, 0, 40, 41, Integer.MAX_VALUE}) {
            FillAndGo x = sheetOf(new FillAndGo(), 2, SHORTS, 1, 2);
            due("sheet(2, -1, " + n + ")", x.sheet(2, -1, n), 1);
            due("missing", x.cell(2, 0, 0), -11);
            due("once more", x.sheet(2, -1, n), 1);
            due("missing", x.copy(2, 0, 2, 0, 0), -11);
            due("a row again", x.sheet(2, BYTES, 1), 1);
            due("with its size", x.cell(2, 1, 0), -12);
        }
    }

    private static void lowestEightBits() {
        by("Number i of a SHEET becomes v (of bytes .. its lowest 8 .. bits)");
        int[] told = {0, 1, 127, 128, 255, 256, 257, 383, 384, 511, 512, -1, -128, -129, -256, -255,
            Integer.MAX_VALUE, Integer.MIN_VALUE, Integer.MIN_VALUE + 5};
        dueNumbers(() -> sheetOf(new FillAndGo(), 0, BYTES, told), BYTES,
            0, 1, 127, -1, -1, 0, 1, 127, -1, -1, 0, -1, -1, 127, 0, 1, -1, 0, 5);
    }

    private static void lowestSixteenBits() {
        by("Number i of a SHEET becomes v (of .. shorts its .. 16 bits)");
        int[] told = {0, 127, 128, 255, 256, 9999, 10000, 32767, 32768, 65535, 65536, 65537, 75535, -1, -32768, -55537,
            -65536, Integer.MAX_VALUE, Integer.MIN_VALUE, Integer.MIN_VALUE + 5};
        dueNumbers(() -> sheetOf(new FillAndGo(), 0, SHORTS, told), SHORTS,
            0, 127, 128, 255, 256, 9999, -1, -1, -1, -1, 0, 1, 9999, -1, -1, 9999, 0, -1, 0, 5);
    }

    private static void intsAsTheyAre() {
        by("Number i of a SHEET becomes v");
        int[] told = {0, 255, 256, 9999, 10000, 65536, 65541, 1 << 24, -1, Integer.MAX_VALUE, Integer.MIN_VALUE};
        dueNumbers(() -> sheetOf(new FillAndGo(), 0, INTS, told), INTS, 0, 255, 256, 9999, -1, -1, -1, -1, -1, -1, -1);
        dueNumbers(() -> {
            FillAndGo x = sheetOf(new FillAndGo(), 0, INTS, 1, 2, 3);
            x.cell(0, 1, 9);
            x.cell(0, 3, 8);
            x.cell(0, -1, 7);
            return x;
        }, INTS, 1, 9, 3);
    }

    // ---- 42

    /** SHEET 0 with 10, 11, .. 17, part of it copied within itself. */
    private static Looks.Town copiedWithin(int sort, int i, int j, int n) {
        return () -> {
            FillAndGo x = sheetOf(new FillAndGo(), 0, sort, 10, 11, 12, 13, 14, 15, 16, 17);
            due("copy(0, " + i + ", 0, " + j + ", " + n + ")", x.copy(0, i, 0, j, n), n);
            return x;
        };
    }

    private static void copyAsTheyWere() {
        by("n numbers of a SHEET, from i on, come to .. its own place j (as they were): n");
        for (int sort = 0; sort < 3; sort++) {
            dueNumbers(copiedWithin(sort, 0, 1, 7), sort, 10, 10, 11, 12, 13, 14, 15, 16);
            dueNumbers(copiedWithin(sort, 1, 0, 7), sort, 11, 12, 13, 14, 15, 16, 17, 17);
            dueNumbers(copiedWithin(sort, 0, 2, 4), sort, 10, 11, 10, 11, 12, 13, 16, 17);
            dueNumbers(copiedWithin(sort, 0, 0, 8), sort, 10, 11, 12, 13, 14, 15, 16, 17);
            dueNumbers(copiedWithin(sort, 0, 8, 0), sort, 10, 11, 12, 13, 14, 15, 16, 17);
            dueNumbers(copiedWithin(sort, 8, 0, 0), sort, 10, 11, 12, 13, 14, 15, 16, 17);
            dueNumbers(copiedWithin(sort, 7, 0, 1), sort, 17, 11, 12, 13, 14, 15, 16, 17);
            dueNumbers(copiedWithin(sort, 0, 7, 1), sort, 10, 11, 12, 13, 14, 15, 16, 10);
        }
    }

    private static void copyToAnother() {
        by("n numbers of a SHEET, from i on, come to another one's place j");
        for (int sort = 0; sort < 3; sort++) {
            int of = sort;
            Looks.Town twoRows = () -> sheetOf(sheetOf(new FillAndGo(), 0, of, 1, 2, 3), 1, of, 4, 5, 6, 7, 8);
            dueNumbers(() -> {
                FillAndGo x = twoRows.made();
                due("all that fits", x.copy(1, 2, 0, 0, 3), 3);
                return x;
            }, sort, 6, 7, 8);
            dueNumbers(() -> {
                FillAndGo x = twoRows.made();
                due("one to the last place", x.copy(1, 0, 0, 2, 1), 1);
                return x;
            }, sort, 1, 2, 4);
            dueNumbers(() -> {
                FillAndGo x = twoRows.made();
                due("to the other one", x.copy(0, 0, 1, 0, 3), 3);
                due("one too many", x.copy(1, 0, 0, 0, 4), -12);
                return x;
            }, sort, 1, 2, 3);
        }
    }

    // ---- 43, 44

    private static void busesFourByFour() {
        by("BUSES by a SHEET of a sort: from a place on, four by four (as of bus())");
        int[] most = {40, 9999, 9999};
        for (int sort = 0; sort < 3; sort++) {
            int target = sort == BYTES ? 127 : most[sort];
            FillAndGo x = sheetOf(crowd(4), 0, sort, 1, 0, 0, 0, 40, 5, target, 9, 4, 2, 3, 1);
            due("three came", x.buses(0, sort, 0, 3), 3);
            x.road(0, 1, 10);
            x.queue(2, 0);
            x.minutes(1);
            due("4 SEATS: it RUNS", x.busTold(2, 0), 3);
            due("SOLD", x.busTold(2, 4), 4);
            due("FUEL 1", x.busTold(2, 7), 10);
            x.wants(1, 2);
            x.queue(1, 2);
            x.road(2, 3, 1);
            x.minutes(1);
            due("FUEL 9", x.busTold(1, 7), 9);
            x.road(2, 3, 0);
            x.rest(1);
            forceText(x, 0, "go=3?owner=5/go=4?owner=0/go=6?owner=2");
            x.force(3, 0);
            x.force(1, 0);
            due("OWNER 0", x.law(0, 0), 4);
            due("OWNER 5", x.law(1, 0), 3);
            due("OWNER 2", x.law(2, 0), 6);
            passTo(x, 1440);
            due("TARGET 0", x.busTold(0, 9), 0);
            due("its TARGET and FUEL", x.busTold(1, 9), target + 9);
        }
    }

    private static void busesFromAPlaceOn() {
        by("from a place on .. -12: what stood ahead came");
        for (int from = 0; from <= 12; from++) {
            for (int n = 0; n <= 3; n++) {
                FillAndGo x = new FillAndGo();
                x.sheet(0, INTS, 12);
                for (int i = 0; i < 12; i++) x.cell(0, i, 1);
                int room = (12 - from) / 4;
                due("buses(0, 2, " + from + ", " + n + ")", x.buses(0, INTS, from, n), n <= room ? n : -12);
                due("how many there are", x.count(1), Math.min(n, room));
            }
        }
    }

    private static void othersAreLeftOut() {
        by("how many came (others are left out)");
        int[][] bad = {{0, 0, 0, 0}, {41, 0, 0, 0}, {1, -1, 0, 0}, {1, 6, 0, 0}, {1, 0, -1, 0}, {1, 0, 10000, 0},
            {1, 0, 0, -1}, {1, 0, 0, 10}};
        for (int[] b : bad) {
            FillAndGo x = sheetOf(new FillAndGo(), 0, INTS, 1, 1, 1, 1, b[0], b[1], b[2], b[3], 1, 2, 2, 2);
            due("two of three", x.buses(0, INTS, 0, 3), 2);
            forceText(x, 0, "go=7?owner=2");
            due("the third is BUS 1", x.law(1, 0), 7);
            due("that one alone", x.buses(0, INTS, 4, 1), 0);
            due("how many there are", x.count(1), 2);
        }
        FillAndGo y = sheetOf(new FillAndGo(), 0, INTS, 40, 5, 9999, 9, 1, 0, 0, 0);
        due("the last that are allowed", y.buses(0, INTS, 0, 2), 2);
    }

    private static void noRoomForMore() {
        by("how many came (others are left out): FULL");
        for (int have = 0; have <= 12; have++) {
            FillAndGo x = withBuses(have);
            x.sheet(0, BYTES, 40);
            for (int k = 0; k < 10; k++) x.cell(0, 4 * k, 1);
            int came = Math.min(10, 12 - have);
            due("ten, with " + have, x.buses(0, BYTES, 0, 10), came);
            due("how many there are", x.count(1), have + came);
        }
        FillAndGo y = withBuses(12);
        y.sheet(0, BYTES, 7);
        due("no room, and a place outside", y.buses(0, BYTES, 0, 2), -12);
    }

    private static void noneToTen() {
        by("n of them (0 .. 10)");
        for (int n = 0; n <= 10; n++) {
            FillAndGo x = new FillAndGo();
            x.sheet(1, SHORTS, 40);
            for (int k = 0; k < 10; k++) x.cell(1, 4 * k, 1);
            due("n " + n, x.buses(1, SHORTS, 0, n), n);
            due("how many there are", x.count(1), n);
        }
        FillAndGo y = new FillAndGo();
        y.sheet(1, SHORTS, 40);
        due("n 11", y.buses(1, SHORTS, 0, 11), BAD);
        due("n -1", y.buses(1, SHORTS, 0, -1), BAD);
        y.sheet(1, SHORTS, 0);
        due("none of an empty one", y.buses(1, SHORTS, 0, 0), 0);
        due("one of an empty one", y.buses(1, SHORTS, 0, 1), -12);
    }

    private static final boolean[][] IS = {
        {true, false, false, false, false, false}, {true, true, false, false, false, false},
        {true, false, true, false, false, false}, {true, false, false, true, false, false},
        {true, false, false, true, true, false}, {true, false, true, false, false, true}};

    private static void takenForEachKind() {
        by("taken for one of a KIND (also of one that is one): its KIND");
        for (int kind = 0; kind < 6; kind++) {
            FillAndGo x = oneBus(9, kind, 1, 0);
            x.people(0, 1, 99);
            pass(x, 2);
            due("it RUNS", x.busTold(0, 0), 3);
            for (int as = 0; as < 6; as++) due("KIND " + kind + " for " + as, x.taken(0, as), IS[kind][as] ? kind : -13);
            due("KIND -1", x.taken(0, -1), BAD);
            due("KIND 6", x.taken(0, 6), BAD);
        }
    }

    private static void takenInEachState() {
        by("The run that a BUS LOADS for, or RUNS (also HELD) .. -13 (also if it RESTS or QUEUES)");
        FillAndGo x = oneBus(9, 4, 2, 0);
        due("it QUEUES", x.taken(0, 0), -13);
        x.minutes(1);
        due("it LOADS", x.taken(0, 3), 4);
        x.people(0, 1, 99);
        x.minutes(2);
        due("it RUNS", x.taken(0, 3), 4);
        x.hold(0, 1);
        due("HELD", x.taken(0, 3), 4);
        due("HELD, of another KIND", x.taken(0, 1), -13);
        pass(x, 2);
        due("it RUNS again", x.taken(0, 4), 4);
        x.road(0, 1, 0);
        pass(x, 9);
        due("it QUEUES at its AIM", x.taken(0, 4), -13);
        due("the KIND of its latest run", x.busTold(0, 11), 4);
        x.rest(0);
        due("it RESTS", x.taken(0, 4), -13);
    }
}
