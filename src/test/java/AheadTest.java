/** The sentences of "Terms", 4, up to the ROUND, and of promises 23 to 34, that name a boundary: each by itself. */
public final class AheadTest extends Testing {
    public static void main(String[] args) {
        changesOfATrip();
        tripOfWaysNow();
        foretoldWithin240();
        foretoldInTheNextMinute();
        foretoldLeavesAll();
        besideUpTo240();
        besideWithRain();
        besideUpToTheEnd();
        planOfSoManyAtMost();
        planOfEachSize();
        planEachAsItIsItsTurn();
        planOfLikeOnes();
        planUpTo120();
        plannedAtFirst();
        gainsAtFirst();
        quietWithinTheCost();
        noneWithMore();
        mostGainTogether();
        firstByRoutes();
        onlyTheFirstSides();
        partOfEachSize();
        roundOfTwoAndOfSix();
        turnsGoRound();
        whoHasStopped();
        stopsWithPaidLessTook();
        end();
    }

    // ---- 23 .. 25

    private static void changesOfATrip() {
        by("the least sum of WAYS now, and 5 for each change between two");
        for (int last = 1; last <= 5; last++) {
            FillAndGo x = new FillAndGo();
            for (int s = 0; s < last; s++) x.road(s, s + 1, 2);
            due("changes: " + (last - 1), x.trip(0, last), 2 * last + 5 * (last - 1));
            due("and back", x.trip(last, 0), 2 * last + 5 * (last - 1));
            if (last < 5) due("no further", x.trip(0, last + 1), STATE);
            if (last < 2) continue;
            x.road(0, last, Math.min(60, 7 * last - 4));
            due("straight is less by 1", x.trip(0, last), 7 * last - 6 + 1);
        }
        FillAndGo most = new FillAndGo();
        for (int s = 0; s < 5; s++) most.road(s, s + 1, 60);
        most.jam(0, 50);
        due("the longest", most.trip(5, 0), 5 * 300 + 4 * 5);
        FillAndGo detour = new FillAndGo();
        detour.road(5, 3, 60);
        detour.road(5, 0, 20);
        detour.road(0, 3, 35);
        due("as long by a change", detour.trip(5, 3), 60);
        detour.road(0, 3, 34);
        due("shorter by a change", detour.trip(5, 3), 59);
    }

    private static void tripOfWaysNow() {
        by("the least sum of WAYS now");
        FillAndGo x = new FillAndGo();
        x.road(0, 1, 3);
        x.road(1, 2, 3);
        x.jam(0, 15);
        x.jam(1, 1);
        due("each is cut: 4 and 4", x.trip(0, 2), 13);
        passTo(x, 59);
        due("MINUTE 59", x.trip(0, 2), 13);
        passTo(x, 60);
        due("MINUTE 60: each is 1 at least", x.trip(0, 2), 7);
    }

    /** A BUS that LOADS since MINUTE 0, one seat SOLD, and goes when it has waited for more than so many MINUTES. */
    private static FillAndGo goesAfter(int waited) {
        FillAndGo x = oneBus(9, 0, 40, 0);
        x.people(0, 1, 99);
        forceText(x, 0, "go=1?waited>" + waited);
        pass(x, 2);
        x.people(0, 1, 0);
        return x;
    }

    private static void foretoldWithin240() {
        by("behind how many MINUTES (1 .. n; n 1 .. 240) the BUS that LOADS at a STAGE goes .. -6: not in n");
        FillAndGo x = goesAfter(240);
        due("it LOADS", x.busTold(0, 0), 2);
        due("in the 240th", x.foretell(0, 240), 240);
        due("not in 239", x.foretell(0, 239), -6);
        FillAndGo y = goesAfter(241);
        due("in the 241st", y.foretell(0, 240), -6);
        pass(y, 1);
        due("a MINUTE later", y.foretell(0, 240), 240);
        pass(y, 238);
        due("it LOADS still", y.busTold(0, 0), 2);
        due("in the second", y.foretell(0, 2), 2);
        due("not in one", y.foretell(0, 1), -6);
        due("as told", y.foretell(0, 240), 2);
        pass(y, 2);
        due("it went", y.busTold(0, 0), 3);
        due("none LOADS", y.foretell(0, 240), STATE);
    }

    private static void foretoldInTheNextMinute() {
        by("behind how many MINUTES (1 .. n)");
        FillAndGo x = goesAfter(1);
        due("in the next one", x.foretell(0, 1), 1);
        due("of more", x.foretell(0, 240), 1);
        FillAndGo y = oneBus(1, 0, 40, 0);
        y.people(0, 1, 99);
        forceText(y, 0, "go=1?waited>4");
        pass(y, 2);
        due("also if it is at its AIM in the same MINUTE", y.foretell(0, 240), 4);
    }

    private static void foretoldLeavesAll() {
        by("FORETOLD, BESIDE: .. nothing changes");
        for (long[] call : new long[][] {{0, 240}, {0, 1}, {0, 3}}) {
            String changed = Looks.changedBy(() -> goesAfter(3), "foretell", call);
            due("foretell changed: " + changed, changed.length(), 0);
        }
        for (int what = 0; what < 3; what++) {
            String changed = Looks.changedBy(() -> goesAfter(3), "beside", 240, 1, what);
            due("beside changed: " + changed, changed.length(), 0);
        }
    }

    /** The BUSES of two ROADS, and who comes; some have RIDDEN and WALKED. */
    private static FillAndGo lively() {
        FillAndGo x = oneBus(5, 0, 4, 0);
        x.people(0, 1, 99);
        x.people(2, 3, 99);
        x.people(1, 0, 33);
        pass(x, 77);
        return x;
    }

    private static void besideUpTo240() {
        by("BESIDE, n MINUTES (1 .. 240): what 0 WAITED, 1 RIDDEN, 2 WALKED that come");
        int[] counts = {4, 3, 2};
        for (int n : new int[] {1, 2, 239, 240}) {
            for (int what = 0; what < 3; what++) {
                FillAndGo x = lively();
                int before = x.count(counts[what]);
                pass(x, n);
                due("n " + n + ", what " + what, lively().beside(n, 0, what), x.count(counts[what]) - before);
            }
        }
    }

    private static void besideWithRain() {
        by("(RAIN being so)");
        FillAndGo x = crowd(40);
        passTo(x, 89);
        int left = x.waiting(0, 1);
        due("dry: a tenth WALKS", x.beside(1, 0, 2), left / 10);
        due("in RAIN none of so few", x.beside(1, 1, 2), 0);
        due("it is dry still", x.count(8), 0);
        x.rain(1);
        due("dry while it rains", x.beside(1, 0, 2), left / 10);
        due("it rains still", x.count(8), 1);
    }

    private static void besideUpToTheEnd() {
        by("NO: .. beyond MINUTE 14400");
        FillAndGo x = passTo(new FillAndGo(), 14160);
        due("just to the end", x.beside(240, 0, 0), 0);
        pass(x, 1);
        due("beyond", x.beside(240, 0, 0), NO);
        due("just to the end", x.beside(239, 0, 0), 0);
        passTo(x, 14399);
        due("the last one", x.beside(1, 0, 0), 0);
        due("beyond", x.beside(2, 0, 0), NO);
        pass(x, 1);
        due("none is left", x.beside(1, 0, 0), NO);
    }

    // ---- 26, 27

    /** From each of STAGES 0 .. 4 people come to go to 5, more from the lesser ones; five BUSES REST. */
    private static FillAndGo star() {
        FillAndGo x = new FillAndGo();
        for (int s = 0; s < 5; s++) {
            x.bus(20, 0, 0, 0);
            x.road(s, 5, 30);
            x.people(s, 5, 90 - 10 * s);
        }
        pass(x, 9);
        return x;
    }

    private static FillAndGo starWithPlaces() {
        return sheetOf(star(), 0, 2, 0, 0, 1, 1, 2, 2, 3, 3, 4, 4);
    }

    /** What is WAITED in n MINUTES with BUSES put to STAGES, two by two. */
    private static long waitedIn(int n, int... places) {
        FillAndGo x = star();
        for (int i = 0; i < places.length; i += 2) x.queue(places[i], places[i + 1]);
        int before = x.count(4);
        pass(x, n);
        return x.count(4) - before;
    }

    private static void planOfSoManyAtMost() {
        by("of all sets of so many at most");
        int[][] put = {{}, {0, 0}, {0, 0, 1, 1}, {0, 0, 1, 1, 2, 2}, {0, 0, 1, 1, 2, 2, 3, 3}, {0, 0, 1, 1, 2, 2, 3, 3, 4, 4}};
        for (int most = 0; most <= 5; most++) {
            FillAndGo x = starWithPlaces();
            due(most + " at most", x.plan(0, most, 20), waitedIn(20, put[most]));
            due("the set", x.planned(), (1 << most) - 1);
        }
    }

    private static void planOfEachSize() {
        by("two by two: a BUS, a STAGE; 0 to 5 of them");
        int[][] put = {{}, {4, 4}, {4, 4, 3, 3}, {4, 4, 3, 3, 2, 2}, {4, 4, 3, 3, 2, 2, 1, 1}, {4, 4, 3, 3, 2, 2, 1, 1, 0, 0}};
        for (int places = 0; places <= 5; places++) {
            for (int sort = 0; sort < 3; sort++) {
                FillAndGo x = sheetOf(star(), sort, sort, put[places]);
                due(places + " places", x.plan(sort, 5, 20), waitedIn(20, put[places]));
                due("all of them", x.planned(), (1 << places) - 1);
            }
        }
        FillAndGo y = sheetOf(star(), 3, 0, 4, 4, 3, 3, 2, 2, 1, 1, 0, 0);
        y.plan(3, 1, 20);
        due("the best of five is the last", y.planned(), 16);
    }

    private static void planEachAsItIsItsTurn() {
        by("whose BUSES all REST (each as it is its turn)");
        FillAndGo x = sheetOf(star(), 0, 0, 0, 1, 0, 0, 0, 2);
        due("a BUS only once", x.plan(0, 5, 20), waitedIn(20, 0, 0));
        due("the best of its places", x.planned(), 2);
        FillAndGo y = starWithPlaces();
        y.queue(0, 4);
        y.queue(1, 4);
        y.plan(0, 5, 20);
        due("those that QUEUE are in none", y.planned() & 3, 0);
        FillAndGo z = starWithPlaces();
        for (int b = 0; b < 5; b++) z.queue(b, b);
        due("none RESTS", z.plan(0, 5, 20), waitedIn(20, 0, 0, 1, 1, 2, 2, 3, 3, 4, 4));
        due("none is put", z.planned(), 0);
        FillAndGo w = starWithPlaces();
        w.queue(0, 0);
        w.rest(0);
        w.plan(0, 1, 20);
        due("one that RESTS again is", w.planned(), 1);
    }

    private static void planOfLikeOnes() {
        by("the set by which the least is WAITED in these; of like ones the least as bits");
        FillAndGo x = sheetOf(star(), 0, 0, 0, 5, 1, 5, 2, 5);
        due("none helps", x.plan(0, 3, 20), waitedIn(20));
        due("the empty set", x.planned(), 0);
        FillAndGo y = sheetOf(star(), 0, 0, 3, 5, 2, 0, 1, 0);
        y.plan(0, 1, 20);
        due("of two like ones the lesser", y.planned(), 2);
        FillAndGo z = sheetOf(star(), 0, 0, 3, 5, 2, 0, 1, 1);
        z.plan(0, 3, 20);
        due("without what does not help", z.planned(), 6);
        FillAndGo none = sheetOf(withBuses(3), 0, 0, 0, 0, 1, 0, 2, 5);
        due("none waits at all", none.plan(0, 3, 20), 0);
        due("the empty set", none.planned(), 0);
        FillAndGo one = withBuses(3);
        one.people(4, 5, 99);
        one.road(4, 5, 9);
        sheetOf(one, 0, 0, 0, 0, 1, 4, 2, 4);
        due("one BUS takes the only one in", one.plan(0, 3, 2), 0);
        due("the least set by which none waits", one.planned(), 2);
        by("these come to QUEUE there");
        FillAndGo w = sheetOf(star(), 0, 0, 2, 0, 1, 0);
        due("in the order of the SHEET", w.plan(0, 2, 20), Math.min(waitedIn(20, 2, 0), waitedIn(20, 2, 0, 1, 0)));
    }

    private static void planUpTo120() {
        by("A PLAN, 0 .. 5 at most, n 1 .. 120: what is WAITED");
        for (int n : new int[] {1, 2, 119, 120}) {
            due("n " + n, starWithPlaces().plan(0, 0, n), waitedIn(n));
        }
        FillAndGo x = sheetOf(new FillAndGo(), 1, 0);
        passTo(x, 14280);
        due("just to the end", x.plan(1, 0, 120), 0);
        pass(x, 1);
        due("beyond", x.plan(1, 0, 120), NO);
        due("just to the end", x.plan(1, 0, 119), 0);
        passTo(x, 14400);
        due("none is left", x.plan(1, 0, 1), NO);
        by("in these: n MINUTES, BESIDE");
        FillAndGo y = starWithPlaces();
        y.rain(1);
        long wet = y.plan(0, 0, 120);
        due("RAIN as it is", wet > waitedIn(120) ? 1 : 0, 1);
        due("beside says the same", wet, y.beside(120, 1, 0));
    }

    private static void plannedAtFirst() {
        by("27 planned: The set of the PLAN that was found last, as bits of its places (0 at first)");
        FillAndGo x = starWithPlaces();
        due("at first", x.planned(), 0);
        x.plan(0, 5, 20);
        due("all five", x.planned(), 31);
        x.plan(0, 2, 0);
        due("a refused one is not found", x.planned(), 31);
        x.minutes(1);
        x.sheet(0, -1, 0);
        due("it stays", x.planned(), 31);
        x.sheet(0, 0, 0);
        x.plan(0, 5, 20);
        due("the empty one", x.planned(), 0);
    }

    // ---- 28 .. 30

    private static void gainsAtFirst() {
        by("a GAIN of each for each (0 .. 9999; 0 at first), FIGHTS that cost (0 .. 9999; 0 at first)");
        FillAndGo x = new FillAndGo();
        for (int route = 0; route < 6; route++) {
            for (int side = 0; side < 4; side++) due("gain at first", x.gain(route, side, 9999), 0);
        }
        for (int route = 0; route < 6; route++) {
            for (int side = 0; side < 4; side++) due("the most", x.gain(route, side, 4 * route + side), 9999);
        }
        for (int route = 0; route < 6; route++) {
            for (int side = 0; side < 4; side++) due("each its own", x.gain(route, side, 0), 4 * route + side);
        }
        due("0 again", x.gain(5, 3, 0), 0);
        due("fights at first", x.fights(9999), 0);
        due("the most", x.fights(0), 9999);
        due("0 again", x.fights(0), 0);
    }

    private static void quietWithinTheCost() {
        by("QUIET: of no ROUTE another SIDE's GAIN less the cost is above that of the SIDE that has it");
        FillAndGo x = new FillAndGo();
        x.gain(0, 1, 7);
        int[][] edges = {{0, 1}, {6, 1}, {7, 2}, {8, 2}, {9999, 2}};
        for (int[] e : edges) {
            x.fights(e[0]);
            due("QUIET ones by " + e[0], x.part(1, 2, 1, -2), e[1]);
        }
        for (int best = 0; best < 4; best++) {
            FillAndGo z = new FillAndGo();
            z.gain(0, best, 1);
            due("only SIDE " + best, z.part(1, 4, 1, -2), 1);
            due("has it", z.part(1, 4, 1, 0), best);
        }
        FillAndGo y = new FillAndGo();
        y.gain(0, 3, 9999);
        y.fights(9998);
        due("9999 less 9998", y.part(1, 4, 1, -2), 1);
        y.fights(9999);
        due("9999 less 9999", y.part(1, 4, 1, -2), 4);
    }

    private static void noneWithMore() {
        by("each ROUTE to a SIDE, none with more than so many");
        FillAndGo x = new FillAndGo();
        for (int most = 1; most <= 6; most++) due("6 ROUTES, 4 SIDES", x.part(6, 4, most, -2), partings(6, 4, most));
        due("one each", x.part(4, 4, 1, -2), 24);
        due("too many by one", x.part(5, 4, 1, -2), 0);
        due("just as many", x.part(6, 3, 2, -2), 90);
        due("too many by one", x.part(5, 2, 2, -2), 0);
        due("all to one SIDE", x.part(6, 1, 6, -2), 1);
        due("one too many for it", x.part(6, 1, 5, -2), 0);
        due("without a bound", x.part(6, 4, 6, -2), 4096);
    }

    /** How many ways there are to give so many ROUTES to SIDES, none with more than so many. */
    private static int partings(int routes, int sides, int most) {
        int ways = 0, all = 1;
        for (int r = 0; r < routes; r++) all *= sides;
        for (int code = 0; code < all; code++) {
            int[] has = new int[sides];
            boolean fine = true;
            for (int r = 0, rest = code; r < routes; r++, rest /= sides) fine &= ++has[rest % sides] <= most;
            if (fine) ways++;
        }
        return ways;
    }

    private static void mostGainTogether() {
        by("The QUIET one with the most GAIN together");
        FillAndGo x = new FillAndGo();
        for (int route = 0; route < 6; route++) {
            for (int side = 0; side < 4; side++) x.gain(route, side, 9999);
        }
        due("the most there can be", x.part(6, 4, 6, -1), 6 * 9999);
        FillAndGo y = new FillAndGo();
        y.gain(0, 0, 5);
        y.gain(0, 1, 9);
        y.gain(1, 1, 3);
        y.fights(4);
        due("9 and 0", y.part(2, 2, 1, -1), 9);
        due("ROUTE 0", y.part(2, 2, 1, 0), 1);
        due("ROUTE 1", y.part(2, 2, 1, 1), 0);
        y.gain(1, 1, 4);
        due("alike: 9 and 0, 5 and 4", y.part(2, 2, 1, -1), 9);
        due("the first by ROUTES", y.part(2, 2, 1, 0), 0);
        y.gain(1, 1, 5);
        due("5 and 5", y.part(2, 2, 1, -1), 10);
        due("QUIET alone", y.part(2, 2, 1, -2), 1);
        FillAndGo none = new FillAndGo();
        due("no GAIN at all", none.part(6, 4, 6, -1), 0);
    }

    private static void firstByRoutes() {
        by("of like ones the first by ROUTES (the lesser SIDE first)");
        FillAndGo x = new FillAndGo();
        for (int i = 0; i < 6; i++) due("two each", x.part(6, 4, 2, i), i / 2);
        for (int i = 0; i < 6; i++) due("all to the first", x.part(6, 4, 6, i), 0);
        for (int i = 0; i < 4; i++) due("one each", x.part(4, 4, 1, i), i);
        for (int i = 0; i < 6; i++) due("five and one", x.part(6, 4, 5, i), i / 5);
        x.gain(0, 3, 1);
        x.gain(0, 2, 1);
        due("of the two best the lesser", x.part(1, 4, 1, 0), 2);
    }

    private static void onlyTheFirstSides() {
        by("the first so many ROUTES (1 .. 6) among the first so many SIDES (1 .. 4)");
        FillAndGo x = new FillAndGo();
        x.gain(0, 3, 100);
        x.gain(5, 0, 1000);
        due("without SIDE 3", x.part(1, 3, 1, -1), 0);
        due("all three are QUIET", x.part(1, 3, 1, -2), 3);
        due("with it", x.part(1, 4, 1, -1), 100);
        due("one is QUIET", x.part(1, 4, 1, -2), 1);
        due("without ROUTE 5", x.part(5, 4, 6, -1), 100);
        due("with it", x.part(6, 4, 6, -1), 1100);
    }

    private static void partOfEachSize() {
        by("i = -1 their GAIN together, -2 how many are QUIET, else the SIDE of ROUTE i");
        FillAndGo x = new FillAndGo();
        for (int routes = 1; routes <= 6; routes++) {
            for (int sides = 1; sides <= 4; sides++) {
                int all = 1;
                for (int r = 0; r < routes; r++) all *= sides;
                due("QUIET", x.part(routes, sides, 6, -2), all);
                due("GAIN", x.part(routes, sides, 6, -1), 0);
                due("the last ROUTE", x.part(routes, sides, 6, routes - 1), 0);
                due("one beyond it", x.part(routes, sides, 6, routes), -5);
            }
        }
    }

    // ---- 31 .. 34

    private static void roundOfTwoAndOfSix() {
        by("A ROUND (one, once) of so many (2 .. 6), so much each (1 .. 999): how many");
        for (int many = 2; many <= 6; many++) {
            for (int sum : new int[] {1, 999}) {
                FillAndGo x = new FillAndGo();
                due("no MEMBERS", x.count(9), 0);
                due("round", x.round(many, sum), many);
                due("MEMBERS", x.count(9), many);
                due("a second one", x.round(many, sum), STATE);
                due("who takes all", x.turns(), 0);
                due("took", x.saved(0, 1), many * sum);
                for (int m = 0; m < many; m++) due("paid in", x.saved(m, 0), sum);
                due("no such MEMBER", x.saved(many, 0), -5);
            }
        }
    }

    private static void turnsGoRound() {
        by("from the one whose turn it is on (0 at first), round and round .. then it is the next one's turn");
        for (int many = 2; many <= 6; many++) {
            FillAndGo x = new FillAndGo();
            x.round(many, 5);
            for (int k = 0; k < 3 * many + 1; k++) due(many + " MEMBERS, turn " + k, x.turns(), k % many);
            due("0 took once more", x.saved(0, 1), 4 * many * 5);
            due("the last one", x.saved(many - 1, 1), 3 * many * 5);
            due("all paid alike", x.saved(many - 1, 0), (3 * many + 1) * 5);
        }
    }

    private static void whoHasStopped() {
        by("the first who has not STOPPED takes all; each who has not STOPPED pays in");
        FillAndGo x = new FillAndGo();
        x.round(4, 10);
        x.stops(0);
        x.stops(1);
        due("the first two have STOPPED", x.turns(), 2);
        due("took of two", x.saved(2, 1), 20);
        due("who STOPPED pays nothing", x.saved(0, 0), 0);
        due("the next one's turn", x.turns(), 3);
        due("round again", x.turns(), 2);
        x.stops(3);
        due("3 has STOPPED: round to 2", x.turns(), 2);
        due("took of itself", x.saved(2, 1), 20 + 20 + 10);
        due("and again", x.turns(), 2);
        x.stops(2);
        due("all have STOPPED", x.turns(), NONE);
        due("and again", x.turns(), NONE);
        for (int m = 0; m < 4; m++) due("STOPPED", x.saved(m, 2), 1);
        due("MEMBERS still", x.count(9), 4);
        FillAndGo y = new FillAndGo();
        y.round(6, 1);
        for (int k = 0; k < 5; k++) y.turns();
        y.stops(5);
        due("the last one has STOPPED: round to 0", y.turns(), 0);
        due("then 1", y.turns(), 1);
    }

    private static void stopsWithPaidLessTook() {
        by("A MEMBER STOPS: what it paid in less what it took");
        FillAndGo x = new FillAndGo();
        x.round(6, 999);
        due("neither", x.stops(5), 0);
        x.turns();
        due("took all", x.stops(0), 999 - 5 * 999);
        due("paid in alone", x.stops(4), 999);
        for (int k = 0; k < 3; k++) x.turns();
        due("paid 4, took 3", x.stops(1), 4 * 999 - 3 * 999);
        due("it has", x.stops(1), STATE);
    }
}
