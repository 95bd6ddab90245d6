/** The sentences of "Terms", 3 A MINUTE goes by, that name a boundary: each by itself. */
public final class MinuteTest extends Testing {
    private static final int RUN = 0, SHORT = 1, EMPTY = 2, EARLY = 3, EXTRA = 4, HIRED = 5;

    public static void main(String[] args) {
        wholePeopleWait();
        partsAreKept();
        whenTheyWalk();
        howManyWalk();
        walkInRain();
        walkThenComeIn();
        oneLoadsAtATime();
        leastNumberLoads();
        sinceNow();
        whereMostWait();
        withoutBusOrRoad();
        kindThatItWantsThen();
        fiveAtMost();
        asManyAsSeats();
        noneInEmptyAndHired();
        goesByNeed();
        needIsBound();
        needOfEarly();
        needByGoNow();
        fareForEachSold();
        fareByFareNow();
        wayNow();
        fuelForEach();
        aRunMore();
        stagesByNumbers();
        heldUntilItsMinute();
        leftInThisMinute();
        comesToItsAim();
        shortTurnsBack();
        busesByNumbers();
        waitedIsCounted();
        lastMinuteOfADay();
        owesMore();
        owesIsPaidFirst();
        keptIsCut();
        keepByThen();
        earnedAndSpentAreZero();
        minuteIsOneMore();
        end();
    }

    // ---- (1) who comes, who walks

    private static void wholePeopleWait() {
        by("what comes in a MINUTE is a tenth of what comes in ten; whole PEOPLE wait");
        FillAndGo x = new FillAndGo();
        x.people(0, 1, 50);
        x.people(1, 0, 10);
        for (int minute = 1; minute <= 18; minute++) {
            pass(x, 1);
            due("5 in ten, MINUTE " + minute, x.waiting(0, 1), minute / 2);
            due("1 in ten, MINUTE " + minute, x.waiting(1, 0), minute / 10);
        }
    }

    private static void partsAreKept() {
        by("(parts are kept)");
        FillAndGo x = new FillAndGo();
        x.people(0, 1, 99);
        pass(x, 1);
        x.people(0, 1, 0);
        pass(x, 5);
        due("99 hundredths", x.waiting(0, 1), 0);
        x.people(0, 1, 1);
        pass(x, 1);
        due("100 hundredths", x.waiting(0, 1), 1);
        pass(x, 93);
        due("93 more", x.waiting(0, 1), 1);
        x.people(0, 1, 7);
        pass(x, 1);
        due("200 hundredths", x.waiting(0, 1), 2);
        by("Of each two STAGES");
        FillAndGo y = new FillAndGo();
        for (int a = 0; a < 6; a++) {
            for (int b = 0; b < 6; b++) if (a != b) y.people(a, b, 60 + 6 * a + b);
        }
        pass(y, 9);
        for (int a = 0; a < 6; a++) {
            for (int b = 0; b < 6; b++) {
                if (a != b) due("from " + a + " to " + b, y.waiting(a, b), 9 * (60 + 6 * a + b) / 100);
            }
        }
    }

    private static void whenTheyWalk() {
        by("If MINUTE % 10 is 9");
        FillAndGo x = new FillAndGo();
        x.people(0, 1, 99);
        x.rain(1);
        passTo(x, 41);
        x.people(0, 1, 0);
        x.rain(0);
        due("40 wait", x.waiting(0, 1), 40);
        passTo(x, 49);
        due("MINUTES up to 48 went by", x.waiting(0, 1), 40);
        passTo(x, 50);
        due("MINUTE 49", x.waiting(0, 1), 36);
        due("WALKED", x.count(2), 4);
        passTo(x, 59);
        due("MINUTES up to 58", x.waiting(0, 1), 36);
        passTo(x, 60);
        due("MINUTE 59", x.waiting(0, 1), 33);
        due("WALKED", x.count(2), 7);
    }

    private static void howManyWalk() {
        by("a tenth of those that wait (cut) WALK off");
        int[][] edges = {{0, 0}, {1, 0}, {9, 0}, {10, 1}, {11, 1}, {19, 1}, {20, 2}, {21, 2}, {29, 2}, {30, 3}, {49, 4}};
        for (int[] e : edges) {
            FillAndGo x = crowd(e[0]);
            passTo(x, (2 * e[0] + 10) / 10 * 10);
            due("of " + e[0], x.count(2), e[1]);
            due("the others wait", x.waiting(0, 1), e[0] - e[1]);
        }
        by("Of each two STAGES .. a tenth of those that wait (cut) WALK off");
        FillAndGo y = new FillAndGo();
        for (int a = 0; a < 6; a++) {
            for (int b = 0; b < 6; b++) y.people(a, b, 45);
        }
        pass(y, 20);
        due("nine wait", y.waiting(5, 0), 9);
        due("of 30 times 9 none", y.count(2), 0);
        FillAndGo z = new FillAndGo();
        for (int a = 0; a < 6; a++) {
            for (int b = 0; b < 6; b++) z.people(a, b, 50);
        }
        pass(z, 20);
        due("nine of ten wait", z.waiting(5, 0), 9);
        due("of 30 times 10 one each", z.count(2), 30);
    }

    private static void walkInRain() {
        by("(in RAIN two hundredths) of those that wait (cut) WALK off");
        FillAndGo x = new FillAndGo();
        x.rain(1);
        x.people(3, 2, 99);
        int hundredths = 0, walked = 0;
        boolean[] seen = new boolean[5];
        for (int minute = 0; minute < 1000; minute++) {
            hundredths += 99;
            if (minute % 10 != 9) continue;
            int off = 2 * (hundredths / 100) / 100;
            seen[Math.min(off, 4)] = true;
            hundredths -= 100 * off;
            walked += off;
            passTo(x, minute + 1);
            due("WALKED by " + minute, x.count(2), walked);
            due("they wait", x.waiting(3, 2), hundredths / 100);
        }
        for (int off = 0; off < 5; off++) due("so many at once: " + off, seen[off] ? 1 : 0, 1);
        FillAndGo y = new FillAndGo();
        y.rain(1);
        y.people(0, 1, 98);
        passTo(y, 50);
        due("of 49 none", y.count(2), 0);
        FillAndGo z = new FillAndGo();
        z.rain(1);
        z.people(0, 1, 50);
        passTo(z, 100);
        due("of 50 one", z.count(2), 1);
        FillAndGo dry = new FillAndGo();
        dry.people(0, 1, 50);
        passTo(dry, 19);
        dry.rain(1);
        passTo(dry, 20);
        due("RAIN that came just ahead: of 10 none", dry.count(2), 0);
        FillAndGo wet = new FillAndGo();
        wet.rain(1);
        wet.people(0, 1, 50);
        passTo(wet, 19);
        wet.rain(0);
        passTo(wet, 20);
        due("RAIN that ended just ahead: of 10 one, who came in this MINUTE among them", wet.count(2), 1);
    }

    private static void walkThenComeIn() {
        by("A MINUTE goes by, in this order: (1) .. (2)");
        FillAndGo x = crowd(10);
        x.road(0, 1, 9);
        x.bus(40, 0, 0, 0);
        passTo(x, 29);
        x.queue(0, 0);
        pass(x, 1);
        due("one of ten WALKS first", x.count(2), 1);
        due("then five come in", x.busTold(0, 4), 5);
        due("the others wait", x.waiting(0, 1), 4);
        FillAndGo y = new FillAndGo();
        y.people(0, 1, 50);
        y.road(0, 1, 9);
        y.bus(40, 0, 0, 0);
        pass(y, 1);
        y.queue(0, 0);
        pass(y, 1);
        due("who comes in a MINUTE comes in then", y.busTold(0, 4), 1);
    }

    // ---- (2) who loads

    private static void oneLoadsAtATime() {
        by("if no BUS LOADS there");
        FillAndGo x = withBuses(3);
        x.road(2, 3, 9);
        x.queue(1, 2);
        x.queue(0, 2);
        x.queue(2, 3);
        pass(x, 5);
        due("the first LOADS", x.busTold(1, 0), 2);
        due("the second QUEUES", x.busTold(0, 0), 1);
        due("another STAGE's LOADS, too", x.busTold(2, 0), 2);
        x.jump(0, 0);
        x.wants(0, EMPTY);
        pass(x, 5);
        due("none takes its place", x.stageTold(2, 2), 1);
        forceText(x, 2, "go=1");
        x.people(2, 3, 99);
        pass(x, 2);
        due("it went", x.busTold(1, 0), 3);
        due("the next one not in the same MINUTE", x.busTold(0, 0), 1);
        pass(x, 1);
        due("but in the next one", x.busTold(0, 0), 3);
    }

    private static void leastNumberLoads() {
        by("of those that QUEUE there the one with the least number LOADS");
        FillAndGo x = withBuses(4);
        x.road(0, 1, 9);
        for (int b = 3; b >= 1; b--) x.queue(b, 0);
        x.queue(0, 5);
        pass(x, 1);
        due("who came first, not the least BUS", x.stageTold(0, 2), 3);
        FillAndGo y = withBuses(4);
        y.road(0, 1, 9);
        for (int b = 0; b < 4; b++) y.queue(b, 0);
        y.jump(2, 0);
        y.jump(3, 0);
        pass(y, 1);
        due("a number below 0", y.stageTold(0, 2), 3);
        due("the next one", y.stageTold(0, 1), 2);
        FillAndGo z = withBuses(2);
        z.road(0, 1, 9);
        z.queue(0, 0);
        z.queue(1, 0);
        z.rest(0);
        z.queue(0, 0);
        pass(z, 1);
        due("who comes again is behind", z.stageTold(0, 2), 1);
    }

    private static void sinceNow() {
        by("LOADS (SINCE now)");
        FillAndGo x = withBuses(1);
        x.queue(0, 0);
        pass(x, 5);
        x.road(0, 1, 9);
        forceText(x, 0, "fare=1?waited=0/fare=2?waited=1/fare=3?waited=6");
        due("it QUEUES for 5", x.law(0, 1), 20);
        pass(x, 1);
        due("SINCE MINUTE 5, now 6", x.law(0, 1), 2);
    }

    private static void whereMostWait() {
        by("for the STAGE with a ROAD from there to which most wait (of like ones the least): its AIM");
        FillAndGo x = withBuses(1);
        for (int s = 5; s >= 0; s--) if (s != 2) x.road(2, s, 9);
        x.queue(0, 2);
        pass(x, 1);
        due("none waits: the least", x.busTold(0, 3), 0);
        FillAndGo y = withBuses(1);
        y.people(2, 4, 50);
        y.people(2, 3, 50);
        y.people(2, 1, 30);
        y.people(2, 5, 99);
        pass(y, 4);
        for (int s : new int[] {1, 3, 4}) y.road(2, s, 9);
        due("two wait for 3 and 4", y.waiting(2, 3) + y.waiting(2, 4), 4);
        y.queue(0, 2);
        pass(y, 1);
        due("of like ones the least, with a ROAD", y.busTold(0, 3), 3);
        y.people(2, 3, 0);
        pass(y, 9);
        due("that stays its AIM", y.busTold(0, 3), 3);
        FillAndGo z = withBuses(1);
        z.road(2, 0, 9);
        z.road(2, 5, 9);
        z.people(2, 5, 99);
        z.queue(0, 2);
        pass(z, 1);
        due("99 hundredths of one are none", z.busTold(0, 3), 0);
        FillAndGo w = withBuses(1);
        w.road(2, 0, 9);
        w.road(2, 5, 9);
        w.people(2, 5, 99);
        pass(w, 1);
        w.queue(0, 2);
        pass(w, 1);
        due("one more", w.busTold(0, 3), 5);
    }

    private static void withoutBusOrRoad() {
        by("(Without such a BUS or ROAD: nothing.)");
        FillAndGo x = crowd(3);
        x.road(0, 1, 9);
        pass(x, 1);
        due("no BUS: none LOADS", x.stageTold(0, 2), -1);
        due("they wait", x.waiting(0, 1), 3);
        x.road(0, 1, 0);
        x.road(1, 2, 9);
        x.bus(4, 0, 0, 0);
        x.queue(0, 0);
        pass(x, 1);
        due("no ROAD from there: it QUEUES", x.busTold(0, 0), 1);
        due("its AIM is as it was", x.busTold(0, 3), 0);
        due("they wait", x.waiting(0, 1), 3);
        x.rest(0);
        x.road(0, 1, 9);
        pass(x, 1);
        due("one that RESTS does not LOAD", x.busTold(0, 0), 0);
    }

    private static void kindThatItWantsThen() {
        by("its run is of the KIND that it WANTS then (0 at first)");
        FillAndGo x = withBuses(1);
        x.road(0, 1, 3);
        x.queue(0, 0);
        due("no run yet", x.busTold(0, 11), 0);
        x.wants(0, EXTRA);
        due("not ahead of it", x.busTold(0, 11), 0);
        pass(x, 1);
        due("when it LOADS", x.busTold(0, 11), EXTRA);
        x.wants(0, EMPTY);
        pass(x, 3);
        due("that run stays", x.busTold(0, 11), EXTRA);
        due("it LOADS still", x.busTold(0, 0), 2);
        forceText(x, 0, "go=1");
        x.people(0, 1, 99);
        pass(x, 2);
        due("it went as such", x.taken(0, EXTRA), EXTRA);
        pass(x, 3);
        due("the next run", x.busTold(0, 11), EMPTY);
        due("goes at once", x.busTold(0, 10), 2);
        pass(x, 9);
        due("and so do those behind it", x.busTold(0, 11), EMPTY);
    }

    /** What a BUS has SOLD when a crowd waited a MINUTE ago. */
    private static FillAndGo loads(int crowd, int seats, int kind) {
        FillAndGo x = crowd(crowd);
        x.rain(1);
        x.road(0, 1, 9);
        x.bus(seats, 0, 0, 0);
        x.wants(0, kind);
        x.queue(0, 0);
        pass(x, 1);
        return x;
    }

    private static void fiveAtMost() {
        by("Of those that wait from there to its AIM 5 at most, as many as there are, come in");
        int[][] edges = {{0, 0}, {1, 1}, {4, 4}, {5, 5}, {6, 5}, {12, 5}};
        for (int[] e : edges) {
            FillAndGo x = loads(e[0], 40, RUN);
            due("of " + e[0], x.busTold(0, 4), e[1]);
            due("the others wait", x.waiting(0, 1), e[0] - e[1]);
            pass(x, 1);
            due("in the next MINUTE", x.busTold(0, 4), Math.min(e[0], 10));
        }
        FillAndGo y = new FillAndGo();
        y.people(0, 2, 50);
        y.people(1, 0, 99);
        pass(y, 2);
        y.road(0, 1, 9);
        y.bus(9, 0, 0, 0);
        y.queue(0, 0);
        pass(y, 1);
        due("those for another STAGE, or from there, do not", y.busTold(0, 4), 0);
    }

    private static void asManyAsSeats() {
        by("as SEATS are not SOLD, come in");
        int[][] edges = {{1, 1}, {4, 4}, {5, 5}, {6, 5}, {7, 5}};
        for (int[] e : edges) due(e[0] + " SEATS", loads(12, e[0], RUN).busTold(0, 4), e[1]);
        FillAndGo x = loads(12, 7, RUN);
        pass(x, 1);
        due("7 SEATS, a MINUTE more", x.busTold(0, 4), 7);
        due("the others wait", x.waiting(0, 1), 5);
        FillAndGo most = loads(45, 40, RUN);
        pass(most, 6);
        due("35 of 40 SEATS", most.busTold(0, 4), 35);
        due("it LOADS", most.busTold(0, 0), 2);
        pass(most, 1);
        due("40 of 40 SEATS", most.busTold(0, 4), 40);
        due("it RUNS", most.busTold(0, 0), 3);
    }

    private static void noneInEmptyAndHired() {
        by("(none, if its KIND is EMPTY or under it)");
        int[] sold = {2, 2, 0, 2, 2, 0};
        for (int kind = RUN; kind <= HIRED; kind++) {
            FillAndGo x = loads(3, 2, kind);
            due("SOLD of KIND " + kind, x.busTold(0, 4), sold[kind]);
            due("who waits", x.waiting(0, 1), 3 - sold[kind]);
            due("it RUNS", x.busTold(0, 0), 3);
        }
    }

    /** The STATE of a BUS, a MINUTE after it began to LOAD, with a CUSTOM. */
    private static int stateBy(String custom, int crowd, int seats, int kind) {
        FillAndGo x = crowd(crowd);
        x.road(0, 1, 9);
        x.bus(seats, 0, 0, 0);
        x.wants(0, kind);
        forceText(x, 0, custom);
        x.queue(0, 0);
        pass(x, 1);
        return x.busTold(0, 0);
    }

    private static void goesByNeed() {
        by("Then it goes, if 100 times SOLD is NEED (by go) times SEATS or more: it RUNS");
        due("1 of 3 for 33", stateBy("go=33", 1, 3, RUN), 3);
        due("1 of 3 for 34", stateBy("go=34", 1, 3, RUN), 2);
        due("2 of 3 for 66", stateBy("go=66", 2, 3, RUN), 3);
        due("2 of 3 for 67", stateBy("go=67", 2, 3, RUN), 2);
        due("3 of 10 for 30", stateBy("go=30", 3, 10, RUN), 3);
        due("3 of 10 for 31", stateBy("go=31", 3, 10, RUN), 2);
        due("1 of 40 for 2", stateBy("go=2", 1, 40, RUN), 3);
        due("1 of 40 for 3", stateBy("go=3", 1, 40, RUN), 2);
        due("1 of 1", stateBy("fare=1", 1, 1, RUN), 3);
        due("0 of 1", stateBy("fare=1", 0, 1, RUN), 2);
        due("4 of 5 for 100", stateBy("fare=1", 4, 5, RUN), 2);
        due("5 of 5 for 100", stateBy("fare=1", 5, 5, RUN), 3);
        due("SHORT, 4 of 5", stateBy("fare=1", 4, 5, SHORT), 2);
        due("SHORT, 5 of 5", stateBy("fare=1", 5, 5, SHORT), 3);
        due("EMPTY", stateBy("go=100", 0, 40, EMPTY), 3);
        due("HIRED", stateBy("go=100", 0, 40, HIRED), 3);
    }

    private static void needIsBound() {
        by("the number told, 1 .. 100 (else the bound)");
        due("0 is 1: 0 of 1", stateBy("go=0", 0, 1, RUN), 2);
        due("0 is 1: 0 of 40", stateBy("go=0", 0, 40, RUN), 2);
        due("0 is 1: 1 of 40", stateBy("go=0", 1, 40, RUN), 3);
        due("101 is 100: 4 of 4", stateBy("go=101", 4, 4, RUN), 3);
        due("9999 is 100: 4 of 4", stateBy("go=9999", 4, 4, RUN), 3);
        due("9999 is 100: 3 of 4", stateBy("go=9999", 3, 4, RUN), 2);
    }

    private static void needOfEarly() {
        by("3 EARLY (a RUN): NEED half of a RUN's (cut up)");
        for (int kind = EARLY; kind <= EXTRA; kind++) {
            due("66: 1 of 3 for 33", stateBy("go=66", 1, 3, kind), 3);
            due("67: 1 of 3 for 34", stateBy("go=67", 1, 3, kind), 2);
            due("1: 0 of 40 for 1", stateBy("go=1", 0, 40, kind), 2);
            due("0: 1 of 40 for 1", stateBy("go=0", 1, 40, kind), 3);
            due("100: 2 of 4 for 50", stateBy("fare=1", 2, 4, kind), 3);
            due("100: 2 of 5 for 50", stateBy("fare=1", 2, 5, kind), 2);
            due("9999: 2 of 4 for 50", stateBy("go=9999", 2, 4, kind), 3);
        }
    }

    private static void needByGoNow() {
        by("NEED (by go)");
        due("sold with those that came in", stateBy("go=50?sold=2", 2, 4, RUN), 3);
        due("not as they were", stateBy("go=50?sold=0", 2, 4, RUN), 2);
        due("queue without itself", stateBy("go=50?queue=0", 2, 4, RUN), 3);
        due("waited since it LOADS", stateBy("go=50?waited=0", 2, 4, RUN), 3);
        FillAndGo x = withBuses(1);
        x.road(0, 1, 30);
        x.people(0, 1, 99);
        forceText(x, 0, "go=1?waited>6");
        x.bus(40, 0, 0, 0);
        x.queue(1, 0);
        pass(x, 7);
        due("waited 6", x.busTold(1, 0), 2);
        pass(x, 1);
        due("waited 7", x.busTold(1, 0), 3);
    }

    private static void fareForEachSold() {
        by("FARE (by fare) for each SOLD seat is EARNED (of HIRED: once)");
        int[] earned = {3 * 33, 3 * 19, 0, 3 * 33, 3 * 39, 99};
        for (int kind = RUN; kind <= HIRED; kind++) {
            FillAndGo x = crowd(3);
            x.road(0, 1, 9);
            x.bus(3, 0, 0, 0);
            x.wants(0, kind);
            forceText(x, 0, "fare=33");
            x.queue(0, 0);
            pass(x, 1);
            due("EARNED of KIND " + kind, x.busTold(0, 6), earned[kind]);
        }
        FillAndGo most = crowd(40);
        most.road(0, 1, 1);
        most.bus(40, 0, 0, 0);
        most.wants(0, EXTRA);
        forceText(most, 0, "fare=9999/go=1?sold=40");
        most.rain(1);
        most.queue(0, 0);
        pass(most, 4);
        due("9999 and a fifth, 20 times", most.busTold(0, 6), 20 * 11998);
        FillAndGo hired = oneBus(1, HIRED, 1, 0);
        forceText(hired, 0, "fare=9999");
        pass(hired, 1);
        due("three times 9999, once", hired.busTold(0, 6), 29997);
        FillAndGo nothing = crowd(3);
        nothing.road(0, 1, 9);
        nothing.bus(3, 0, 0, 0);
        forceText(nothing, 0, "fare=0");
        nothing.queue(0, 0);
        pass(nothing, 1);
        due("a FARE of 0", nothing.busTold(0, 6), 0);
        due("it RUNS", nothing.busTold(0, 0), 3);
    }

    private static void fareByFareNow() {
        by("FARE (by fare)");
        FillAndGo x = crowd(2);
        x.road(0, 1, 9);
        x.bus(2, 0, 0, 0);
        forceText(x, 0, "fare=5?sold=2?waited=0?earned=0");
        x.queue(0, 0);
        pass(x, 1);
        due("as it is when it goes", x.busTold(0, 6), 10);
    }

    private static void wayNow() {
        by("LEFT: MINUTES of the WAY now");
        FillAndGo x = oneBus(10, EMPTY, 4, 1);
        x.jam(1, 30);
        x.rest(0);
        passTo(x, 59);
        x.queue(0, 0);
        pass(x, 1);
        due("in MINUTE 59", x.busTold(0, 7), 10);
        FillAndGo y = oneBus(10, EMPTY, 4, 1);
        y.jam(1, 30);
        y.rest(0);
        passTo(y, 60);
        y.queue(0, 0);
        pass(y, 1);
        due("in MINUTE 60", y.busTold(0, 7), 30);
        due("LEFT", y.busTold(0, 5), 29);
        y.jam(1, 10);
        y.road(0, 1, 1);
        pass(y, 1);
        due("LEFT goes on as it was", y.busTold(0, 5), 28);
        FillAndGo z = oneBus(10, EMPTY, 4, 1);
        z.jam(23, 30);
        z.rest(0);
        passTo(z, 1440);
        z.queue(0, 0);
        pass(z, 1);
        due("in MINUTE 1440: hour 0", z.busTold(0, 7), 10);
        by("A BUS that LOADS when its ROAD is taken away: a WAY of 1 at least");
        FillAndGo w = oneBus(10, RUN, 1, 3);
        pass(w, 1);
        w.road(0, 1, 0);
        w.people(0, 1, 99);
        pass(w, 2);
        dueOfBus("it is there", w, 0, 1, 1, 0, 1, 0, 0, 20, 3);
    }

    private static void fuelForEach() {
        by("FUEL for each of these is SPENT");
        int[] minutes = {9, 5, 9, 9, 9, 19};
        for (int fuel = 0; fuel <= 9; fuel += 9) {
            for (int kind = RUN; kind <= HIRED; kind++) {
                FillAndGo x = crowd(3);
                x.road(0, 1, 9);
                x.bus(3, 0, 0, fuel);
                x.wants(0, kind);
                x.queue(0, 0);
                pass(x, 1);
                due("minutes of KIND " + kind, x.busTold(0, 5), minutes[kind] - 1);
                due("SPENT of KIND " + kind, x.busTold(0, 7), minutes[kind] * (kind == EXTRA ? fuel + 1 : fuel));
            }
        }
    }

    private static void aRunMore() {
        by("a run more");
        FillAndGo x = oneBus(1, EMPTY, 4, 1);
        for (int minute = 1; minute <= 5; minute++) {
            pass(x, 1);
            due("runs", x.busTold(0, 10), minute);
        }
        FillAndGo y = oneBus(9, RUN, 4, 1);
        pass(y, 50);
        due("one that LOADS made none", y.busTold(0, 10), 0);
    }

    private static void stagesByNumbers() {
        by("(2) STAGES, by numbers");
        FillAndGo x = withBuses(6);
        for (int s = 0; s < 6; s++) {
            x.wants(s, EMPTY);
            x.queue(s, s);
            x.road(s, (s + 1) % 6, 9);
        }
        pass(x, 1);
        for (int s = 0; s < 6; s++) {
            due("each STAGE has its own", x.busTold(s, 0), 3);
            due("each goes to the least STAGE with a ROAD", x.busTold(s, 3), s == 0 ? 1 : s == 5 ? 0 : s - 1);
        }
    }

    // ---- (3) who runs

    private static void heldUntilItsMinute() {
        by("one that is HELD RUNS again, if its MINUTE has come (no more in this one)");
        for (int minutes : new int[] {1, 2, 600}) {
            FillAndGo x = oneBus(9, EMPTY, 4, 0);
            pass(x, 1);
            due("minutes LEFT", x.hold(0, minutes), 8);
            pass(x, minutes);
            due("HELD for " + minutes, x.busTold(0, 0), 4);
            due("LEFT", x.busTold(0, 5), 8);
            pass(x, 1);
            due("it RUNS", x.busTold(0, 0), 3);
            due("no more in this one", x.busTold(0, 5), 8);
            pass(x, 1);
            due("in the next one", x.busTold(0, 5), 7);
        }
        FillAndGo y = oneBus(2, EMPTY, 4, 0);
        pass(y, 1);
        due("a minute LEFT", y.hold(0, 1), 1);
        pass(y, 2);
        due("it RUNS, with that minute", y.busTold(0, 5), 1);
        due("HELD again", y.hold(0, 1), 1);
        pass(y, 3);
        due("there", y.busTold(0, 1), 1);
    }

    private static void leftInThisMinute() {
        by("One that RUNS has a minute LEFT less (also one that goes in this MINUTE); at 0");
        for (int road = 1; road <= 3; road++) {
            FillAndGo x = oneBus(road, EMPTY, 4, 0);
            for (int minute = 1; minute < road; minute++) {
                pass(x, 1);
                due("LEFT", x.busTold(0, 5), road - minute);
                due("it RUNS", x.busTold(0, 0), 3);
            }
            pass(x, 1);
            due("there in MINUTE " + road, x.busTold(0, 0), 1);
            due("LEFT", x.busTold(0, 5), 0);
        }
        FillAndGo s = oneBus(1, SHORT, 1, 0);
        s.people(0, 1, 99);
        pass(s, 2);
        due("a SHORT of 1: back in the same MINUTE", s.busTold(0, 0), 1);
        due("a run", s.busTold(0, 10), 1);
    }

    private static void comesToItsAim() {
        by("all SOLD have RIDDEN, and it comes to QUEUE at its AIM");
        int[] kinds = {RUN, EARLY, EXTRA};
        for (int kind : kinds) {
            FillAndGo x = loads(3, 3, kind);
            due("none yet", x.count(3), 0);
            pass(x, 8);
            due("RIDDEN", x.count(3), 3);
            due("WALKED", x.count(2), 0);
            dueOfBus("at its AIM", x, 0, 1, 1, 0, 1, 0, 0);
        }
        FillAndGo y = loads(3, 3, EMPTY);
        pass(y, 8);
        due("none in an EMPTY one", y.count(3), 0);
        due("at its AIM", y.busTold(0, 1), 1);
    }

    private static void shortTurnsBack() {
        by("of a SHORT half of the SOLD (cut) WALK instead, and it QUEUES where it came from");
        int[][] edges = {{1, 0}, {2, 1}, {3, 1}, {4, 2}, {5, 2}};
        for (int[] e : edges) {
            FillAndGo x = loads(e[0], e[0], SHORT);
            x.rain(1);
            due("LEFT", x.busTold(0, 5), 4);
            pass(x, 4);
            due("WALKED of " + e[0], x.count(2), e[1]);
            due("RIDDEN of " + e[0], x.count(3), e[0] - e[1]);
            dueOfBus("where it came from", x, 0, 1, 0, 1, 1, 0, 0);
        }
    }

    private static void busesByNumbers() {
        by("(3) BUSES, by numbers");
        FillAndGo x = withBuses(3);
        x.road(0, 2, 3);
        x.road(1, 2, 3);
        x.wants(1, EMPTY);
        x.wants(2, EMPTY);
        x.queue(2, 0);
        x.queue(1, 1);
        pass(x, 3);
        due("both are there, the lesser BUS first", x.busTold(1, 2), 0);
        due("then the other", x.busTold(2, 2), 1);
    }

    // ---- (4), (5)

    private static void waitedIsCounted() {
        by("(4) All that wait are counted as WAITED");
        FillAndGo x = crowd(6);
        int before = x.count(4);
        due("0, 1, 1, .. 5, 5, 6", before, 36);
        pass(x, 1);
        due("six more", x.count(4) - before, 6);
        x.road(0, 1, 9);
        x.bus(40, 0, 0, 0);
        x.queue(0, 0);
        pass(x, 1);
        due("those that came in do not wait", x.count(4) - before, 7);
        pass(x, 1);
        due("none waits", x.count(4) - before, 7);
        FillAndGo y = new FillAndGo();
        y.people(0, 1, 50);
        y.people(5, 4, 50);
        pass(y, 3);
        due("of all STAGES", y.count(4), 4);
        FillAndGo z = crowd(10);
        passTo(z, 29);
        int late = z.count(4);
        pass(z, 1);
        due("who WALKS in this MINUTE did not wait in it", z.count(4) - late, 9);
    }

    private static void lastMinuteOfADay() {
        by("(5) In the last MINUTE of a DAY");
        FillAndGo x = new FillAndGo();
        x.bus(1, 0, 7, 0);
        passTo(x, 1439);
        due("not yet", x.busTold(0, 9), 0);
        passTo(x, 1440);
        due("MINUTE 1439", x.busTold(0, 9), 7);
        passTo(x, 2879);
        due("a DAY later not yet", x.busTold(0, 9), 7);
        passTo(x, 2880);
        due("MINUTE 2879", x.busTold(0, 9), 14);
        passTo(x, 14399);
        due("nine DAYS", x.busTold(0, 9), 63);
        passTo(x, 14400);
        due("ten DAYS", x.busTold(0, 9), 70);
    }

    /** One BUS that has EARNED three times a fare by one HIRED run, and stands without a ROAD then. */
    private static FillAndGo hired(int target, int fare, String keep) {
        FillAndGo x = new FillAndGo();
        x.bus(1, 0, target, 0);
        x.wants(0, HIRED);
        String text = "fare=" + fare + "/" + keep;
        forceText(x, 0, text);
        x.force(1, 0);
        earn(x);
        return x;
    }

    private static void earn(FillAndGo x) {
        x.road(0, 1, 1);
        x.rest(0);
        x.queue(0, 0);
        pass(x, 1);
        x.road(0, 1, 0);
    }

    private static void owesMore() {
        by("EARNED less SPENT less TARGET: if below 0, it OWES so much more");
        int[][] edges = {{0, 0, 0}, {1, 0, 1}, {3, 1, 0}, {4, 1, 1}, {5, 1, 2}, {9999, 0, 9999}, {9999, 3332, 3},
            {9999, 3333, 0}};
        for (int[] e : edges) {
            FillAndGo x = hired(e[0], e[1], "keep=100");
            due("EARNED", x.busTold(0, 6), 3 * e[1]);
            passTo(x, 1440);
            due("OWES, TARGET " + e[0] + ", EARNED " + 3 * e[1], x.busTold(0, 9), e[2]);
            due("KEPT nothing", x.busTold(0, 8), 0);
            passTo(x, 2880);
            due("so much more", x.busTold(0, 9), e[2] + e[0]);
        }
        FillAndGo y = withBuses(2);
        y.queue(0, 0);
        y.queue(1, 0);
        y.jump(1, 9999);
        passTo(y, 1440);
        due("SPENT alone", y.busTold(1, 9), 9999);
        due("neither", y.busTold(0, 9), 0);
    }

    /** A BUS that OWES its TARGET by the first DAY, and EARNED three times a fare in the second one. */
    private static FillAndGo owing(int target, int fare) {
        FillAndGo x = new FillAndGo();
        x.bus(1, 0, target, 0);
        x.wants(0, HIRED);
        forceText(x, 0, "fare=" + fare + "/keep=100");
        x.force(1, 0);
        passTo(x, 1440);
        x.queue(0, 0);
        earn(x);
        passTo(x, 2880);
        return x;
    }

    private static void owesIsPaidFirst() {
        by("else of that first what it OWES is paid; of what is left .. are KEPT more");
        int[][] edges = {{5, 3, 1, 0}, {6, 4, 0, 0}, {4, 3, 0, 1}, {4, 4, 0, 4}, {3, 1, 3, 0}, {6, 3, 3, 0}};
        for (int[] e : edges) {
            FillAndGo x = owing(e[0], e[1]);
            due("OWES, TARGET " + e[0] + ", EARNED " + 3 * e[1], x.busTold(0, 9), e[2]);
            due("KEPT", x.busTold(0, 8), e[3]);
        }
    }

    private static void keptIsCut() {
        by("as many hundredths as keep says (100 at most; cut) are KEPT more");
        int[][] edges = {{0, 0}, {1, 0}, {99, 0}, {100, 1}, {101, 1}, {9999, 1}};
        for (int[] e : edges) {
            FillAndGo x = hired(2, 1, "keep=" + e[0]);
            passTo(x, 1440);
            due("of 1, keep " + e[0], x.busTold(0, 8), e[1]);
            due("OWES", x.busTold(0, 9), 0);
        }
        int[][] more = {{0, 0}, {1, 1}, {33, 33}, {99, 99}, {100, 100}, {101, 100}, {9999, 100}};
        for (int[] e : more) {
            FillAndGo x = hired(2, 34, "keep=" + e[0]);
            passTo(x, 1440);
            due("of 100, keep " + e[0], x.busTold(0, 8), e[1]);
        }
        FillAndGo plain = hired(2, 34, "go=1");
        passTo(plain, 1440);
        due("of 100 by none", plain.busTold(0, 8), 30);
        FillAndGo cut = hired(0, 33, "keep=50");
        passTo(cut, 1440);
        due("half of 99", cut.busTold(0, 8), 49);
        cut.rest(0);
        earn(cut);
        passTo(cut, 2880);
        due("KEPT more", cut.busTold(0, 8), 98);
    }

    private static void keepByThen() {
        by("as many hundredths as keep says");
        FillAndGo x = hired(0, 1, "keep=100?earned=3?hour=23");
        passTo(x, 1440);
        due("EARNED and the hour are as in that MINUTE", x.busTold(0, 8), 3);
        FillAndGo y = hired(0, 100, "keep=9?stage=1");
        passTo(y, 1440);
        due("by the STAGE where it is", y.busTold(0, 8), 27);
    }

    private static void earnedAndSpentAreZero() {
        by("EARNED, SPENT are 0");
        FillAndGo x = new FillAndGo();
        x.road(0, 1, 60);
        x.bus(1, 0, 0, 1);
        x.bus(1, 0, 0, 1);
        x.wants(0, HIRED);
        passTo(x, 1438);
        x.queue(0, 0);
        pass(x, 1);
        due("EARNED ahead of it", x.busTold(0, 6), 60);
        due("SPENT ahead of it", x.busTold(0, 7), 70);
        pass(x, 1);
        due("EARNED", x.busTold(0, 6), 0);
        due("SPENT", x.busTold(0, 7), 0);
        due("OWES", x.busTold(0, 9), 10);
        due("its runs stay", x.busTold(0, 10), 1);
        due("LEFT goes on", x.busTold(0, 5), 68);
        FillAndGo y = oneBus(60, HIRED, 1, 0);
        y.rest(0);
        passTo(y, 1439);
        y.queue(0, 0);
        pass(y, 1);
        due("what is EARNED in the last MINUTE is of this DAY", y.busTold(0, 8), 18);
        due("EARNED", y.busTold(0, 6), 0);
    }

    private static void minuteIsOneMore() {
        by("Then MINUTE is 1 more");
        FillAndGo x = new FillAndGo();
        due("minutes(1)", x.minutes(1), 1);
        due("minutes(1)", x.minutes(1), 2);
        due("count(0)", x.count(0), 2);
        due("minutes(200)", x.minutes(200), 202);
    }
}
