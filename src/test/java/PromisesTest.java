/** Each promise of the document by itself: ordinary inputs, its edges, and each refusal in the order told. */
public final class PromisesTest extends Testing {
    public static void main(String[] args) {
        newObject();
        roads();
        jams();
        people();
        rain();
        bus();
        queue();
        rest();
        jump();
        hold();
        wants();
        feed();
        custom();
        faults();
        force();
        law();
        why();
        minutes();
        loading();
        kindsOfRuns();
        dayEnds();
        busTold();
        waiting();
        stageTold();
        kindTold();
        count();
        trip();
        foretell();
        beside();
        plan();
        gains();
        part();
        savings();
        books();
        told();
        images();
        sheets();
        copies();
        busesBySheet();
        taken();
        constants();
        end();
    }

    // ---- 1

    private static void newObject() {
        FillAndGo x = new FillAndGo();
        for (int what = 0; what <= 9; what++) due(1, "count(" + what + ")", x.count(what), 0);
        for (int a = 0; a < 6; a++) {
            due(1, "stageTold(a, 0)", x.stageTold(a, 0), 0);
            due(1, "stageTold(a, 1)", x.stageTold(a, 1), -1);
            due(1, "stageTold(a, 2)", x.stageTold(a, 2), -1);
            due(1, "stageTold(a, 3)", x.stageTold(a, 3), -1);
            due(1, "force(a, -1)", x.force(a, -1), -1);
            for (int b = 0; b < 6; b++) {
                if (a == b) continue;
                due(1, "trip", x.trip(a, b), STATE);
                due(1, "road", x.road(a, b, 0), 0);
                due(1, "people", x.people(a, b, 0), 0);
                due(1, "waiting", x.waiting(a, b), 0);
            }
        }
        for (int h = 0; h < 24; h++) due(1, "jam", x.jam(h, 10), 10);
        due(1, "busTold(0, 0)", x.busTold(0, 0), -5);
        due(1, "planned()", x.planned(), 0);
        due(1, "back()", x.back(), STATE);
        due(1, "fights(0)", x.fights(0), 0);
        due(1, "gain(5, 3, 0)", x.gain(5, 3, 0), 0);
    }

    // ---- 2 .. 5

    private static void roads() {
        FillAndGo x = new FillAndGo();
        due(2, "road(-1, 0, 1)", x.road(-1, 0, 1), NONE);
        due(2, "road(0, -1, 1)", x.road(0, -1, 1), NONE);
        due(2, "road(6, 6, 99)", x.road(6, 6, 99), NONE);
        due(2, "road(5, 5, 1)", x.road(5, 5, 1), BAD);
        due(2, "road(0, 5, -1)", x.road(0, 5, -1), BAD);
        due(2, "road(0, 5, 61)", x.road(0, 5, 61), BAD);
        due(2, "road(0, 5, 60)", x.road(0, 5, 60), 0);
        due(2, "road(5, 0, 0)", x.road(5, 0, 0), 60);
        due(2, "road(0, 5, 7)", x.road(0, 5, 7), 0);
        due(2, "road(5, 0, 70)", x.road(5, 0, 70), BAD);
        due(2, "trip(5, 0)", x.trip(5, 0), 7);
        due(2, "trip(0, 4)", x.trip(0, 4), STATE);
    }

    private static void jams() {
        FillAndGo x = new FillAndGo();
        due(3, "jam(-1, 1)", x.jam(-1, 1), BAD);
        due(3, "jam(24, 1)", x.jam(24, 1), BAD);
        due(3, "jam(23, 0)", x.jam(23, 0), BAD);
        due(3, "jam(23, 51)", x.jam(23, 51), BAD);
        due(3, "jam(23, 50)", x.jam(23, 50), 10);
        due(3, "jam(23, 1)", x.jam(23, 1), 50);
        due(3, "jam(0, 15)", x.jam(0, 15), 10);
        x.road(0, 1, 9);
        due(3, "a WAY by the hour, cut", x.trip(0, 1), 13);
        x.jam(0, 1);
        due(3, "a WAY of 1 at least", x.trip(0, 1), 1);
        x.jam(1, 20);
        pass(x, 59);
        due(3, "still hour 0", x.trip(0, 1), 1);
        pass(x, 1);
        due(3, "hour 1", x.trip(0, 1), 18);
    }

    private static void people() {
        FillAndGo x = new FillAndGo();
        due(4, "people(-1, 0, 1)", x.people(-1, 0, 1), NONE);
        due(4, "people(0, 6, 1)", x.people(0, 6, 1), NONE);
        due(4, "people(6, 6, 100)", x.people(6, 6, 100), NONE);
        due(4, "people(2, 2, 1)", x.people(2, 2, 1), BAD);
        due(4, "people(0, 1, -1)", x.people(0, 1, -1), BAD);
        due(4, "people(0, 1, 100)", x.people(0, 1, 100), BAD);
        due(4, "people(0, 1, 33)", x.people(0, 1, 33), 0);
        due(4, "people(1, 0, 99)", x.people(1, 0, 99), 0);
        due(4, "people(1, 0, 0)", x.people(1, 0, 0), 99);
        pass(x, 3);
        due(4, "99 hundredths are no one", x.waiting(0, 1), 0);
        due(4, "people(0, 1, 1)", x.people(0, 1, 1), 33);
        pass(x, 1);
        due(4, "parts are kept", x.waiting(0, 1), 1);
        due(4, "the other way none", x.waiting(1, 0), 0);
    }

    private static void rain() {
        FillAndGo x = new FillAndGo();
        due(5, "rain(-1)", x.rain(-1), BAD);
        due(5, "rain(2)", x.rain(2), BAD);
        due(5, "rain(1)", x.rain(1), 0);
        due(5, "rain(0)", x.rain(0), 1);
        due(5, "count(8)", x.count(8), 0);
        x.people(0, 1, 99);
        pass(x, 19);
        due(5, "19 MINUTES, none WALKED", x.waiting(0, 1), 18);
        pass(x, 1);
        due(5, "a tenth WALKED", x.waiting(0, 1), 18);
        due(5, "count(2)", x.count(2), 1);
        FillAndGo y = new FillAndGo();
        y.rain(1);
        y.people(0, 1, 99);
        pass(y, 50);
        due(5, "49 in RAIN: none WALKS", y.waiting(0, 1), 49);
        pass(y, 10);
        due(5, "59 in RAIN: one WALKS", y.waiting(0, 1), 58);
        due(5, "count(2)", y.count(2), 1);
        FillAndGo z = new FillAndGo();
        z.rain(1);
        z.people(0, 1, 50);
        pass(z, 99);
        due(5, "49 wait", z.waiting(0, 1), 49);
        pass(z, 1);
        due(5, "of just 50 one WALKS", z.waiting(0, 1), 49);
    }

    // ---- 6 .. 11

    private static void bus() {
        FillAndGo x = new FillAndGo();
        int[][] bad = {{0, 0, 0, 0}, {41, 0, 0, 0}, {1, -1, 0, 0}, {1, 6, 0, 0},
            {1, 0, -1, 0}, {1, 0, 10000, 0}, {1, 0, 0, -1}, {1, 0, 0, 10}};
        for (int[] b : bad) due(6, "bus of a bad number", x.bus(b[0], b[1], b[2], b[3]), BAD);
        due(6, "bus(1, 0, 0, 0)", x.bus(1, 0, 0, 0), 0);
        due(6, "bus(40, 5, 9999, 9)", x.bus(40, 5, 9999, 9), 1);
        for (int k = 2; k < 12; k++) due(6, "bus", x.bus(3, 1, 2, 3), k);
        due(6, "a 13th of a bad number", x.bus(0, 0, 0, 0), BAD);
        due(6, "a 13th", x.bus(1, 0, 0, 0), FULL);
        due(6, "count(1)", x.count(1), 12);
        for (int what = 0; what <= 11; what++) {
            due(6, "busTold(11, " + what + ")", x.busTold(11, what), what == 2 ? -1000000 : 0);
        }
    }

    private static void queue() {
        FillAndGo x = new FillAndGo();
        x.bus(1, 0, 0, 0);
        x.bus(1, 0, 0, 0);
        due(7, "queue(-1, 0)", x.queue(-1, 0), NONE);
        due(7, "queue(2, 0)", x.queue(2, 0), NONE);
        due(7, "queue(0, -1)", x.queue(0, -1), NONE);
        due(7, "queue(0, 6)", x.queue(0, 6), NONE);
        due(7, "queue(0, 5)", x.queue(0, 5), 0);
        due(7, "queue(0, 6) of one that QUEUES", x.queue(0, 6), NONE);
        due(7, "queue(0, 4)", x.queue(0, 4), STATE);
        due(7, "queue(1, 5)", x.queue(1, 5), 1);
        due(7, "its STAGE", x.busTold(1, 1), 5);
        x.rest(0);
        due(7, "who comes again gets the next number", x.queue(0, 5), 2);
        due(7, "busTold(0, 2)", x.busTold(0, 2), 2);
    }

    private static void rest() {
        FillAndGo x = new FillAndGo();
        x.bus(1, 0, 0, 0);
        due(8, "rest(-1)", x.rest(-1), NONE);
        due(8, "rest(1)", x.rest(1), NONE);
        due(8, "rest(0)", x.rest(0), STATE);
        x.queue(0, 4);
        due(8, "rest(0)", x.rest(0), 4);
        due(8, "its STATE", x.busTold(0, 0), 0);
        due(8, "its STAGE", x.busTold(0, 1), 4);
        x.road(4, 3, 9);
        x.queue(0, 4);
        pass(x, 1);
        due(8, "one that LOADS", x.rest(0), STATE);
        due(8, "still LOADS", x.busTold(0, 0), 2);
    }

    private static void jump() {
        FillAndGo x = new FillAndGo();
        for (int k = 0; k < 4; k++) x.bus(1, 0, 0, 0);
        for (int k = 0; k < 3; k++) x.queue(k, 2);
        due(9, "jump(4, -1)", x.jump(4, -1), NONE);
        due(9, "jump(0, -1)", x.jump(0, -1), BAD);
        due(9, "jump(3, 10000)", x.jump(3, 10000), BAD);
        due(9, "jump(3, 1)", x.jump(3, 1), STATE);
        due(9, "jump(0, 1)", x.jump(0, 1), -6);
        due(9, "-6 costs nothing", x.busTold(0, 7), 0);
        due(9, "jump(2, 9999)", x.jump(2, 9999), -1);
        due(9, "SPENT", x.busTold(2, 7), 9999);
        due(9, "jump(1, 0)", x.jump(1, 0), -2);
        due(9, "jump(2, 1)", x.jump(2, 1), -3);
        due(9, "SPENT more", x.busTold(2, 7), 10000);
        due(9, "who is next", x.stageTold(2, 1), 2);
        due(9, "the STAGE gives on", x.queue(3, 2), 3);
        x.rest(2);
        x.rest(1);
        due(9, "1 less than the least of those there", x.jump(3, 0), -1);
    }

    private static void hold() {
        FillAndGo x = oneBus(5, 2, 4, 1);
        due(10, "hold(1, 0)", x.hold(1, 0), NONE);
        due(10, "hold(0, 0)", x.hold(0, 0), BAD);
        due(10, "hold(0, 601)", x.hold(0, 601), BAD);
        due(10, "hold(0, 600) of one that QUEUES", x.hold(0, 600), STATE);
        pass(x, 1);
        due(10, "hold(0, 3)", x.hold(0, 3), 4);
        due(10, "one that is HELD", x.hold(0, 3), STATE);
        due(10, "its STATE", x.busTold(0, 0), 4);
        pass(x, 3);
        due(10, "HELD still", x.busTold(0, 0), 4);
        pass(x, 1);
        due(10, "it RUNS again", x.busTold(0, 0), 3);
        due(10, "no more in this MINUTE", x.busTold(0, 5), 4);
        pass(x, 1);
        due(10, "LEFT less", x.busTold(0, 5), 3);
        pass(x, 3);
        due(10, "at its AIM", x.busTold(0, 1), 1);
        due(10, "it QUEUES", x.busTold(0, 0), 1);
        pass(x, 1);
        due(10, "hold(0, 1)", x.hold(0, 1), 4);
        pass(x, 1);
        due(10, "HELD still", x.busTold(0, 0), 4);
        pass(x, 1);
        due(10, "it RUNS again", x.busTold(0, 0), 3);
    }

    private static void wants() {
        FillAndGo x = oneBus(5, 0, 4, 1);
        due(11, "wants(1, 6)", x.wants(1, 6), NONE);
        due(11, "wants(0, -1)", x.wants(0, -1), BAD);
        due(11, "wants(0, 6)", x.wants(0, 6), BAD);
        due(11, "wants(0, 5)", x.wants(0, 5), 0);
        due(11, "wants(0, 0)", x.wants(0, 0), 5);
        pass(x, 1);
        due(11, "wants(0, 2)", x.wants(0, 2), 0);
        pass(x, 3);
        due(11, "the run that it LOADS for stays", x.busTold(0, 11), 0);
        due(11, "it LOADS still", x.busTold(0, 0), 2);
    }

    // ---- 12 .. 16

    private static void feed() {
        FillAndGo x = new FillAndGo();
        due(12, "feed(1, 0)", x.feed(1, 0), BAD);
        due(12, "feed(1, 9)", x.feed(1, 9), BAD);
        due(12, "feed(1, -1)", x.feed(1, -1), BAD);
        due(12, "the lowest bytes, the highest first", x.feed(0x7878_7878_676f3d39L, 4), 4);
        due(12, "custom()", x.custom(), 0);
        x.bus(1, 0, 0, 0);
        x.force(0, 0);
        due(12, "law(0, 0)", x.law(0, 0), 9);
        due(12, "a high byte", x.feed(-1L, 1), 1);
        due(12, "is a FAULT", x.custom(), -100);
        for (int k = 1; k <= 19; k++) due(12, "feed", x.feed(k, 8), 8 * k);
        due(12, "feed(0, 7)", x.feed(0, 7), 159);
        due(12, "feed(0, 2)", x.feed(0, 2), FULL);
        due(12, "feed(0, 9)", x.feed(0, 9), BAD);
        due(12, "feed(0, 1)", x.feed(0, 1), 160);
        due(12, "feed(0, 1)", x.feed(0, 1), FULL);
        due(12, "count(6)", x.count(6), 160);
    }

    private static void custom() {
        FillAndGo x = new FillAndGo();
        due(13, "custom() of nothing", x.custom(), -100);
        due(13, "8 LINES", customOf(x, "go=1/go=2/go=3/go=4/go=5/go=6/fare=7/keep=8"), 0);
        due(13, "3 TESTS", customOf(x, "go=1?sold<1?rain=0?hour>12"), 1);
        due(13, "4 digits", customOf(x, "keep=0000?earned>9999"), 2);
        due(13, "all FIELDS", customOf(x, "go=1?waited<1?sold>2?rain=1/fare=9?hour<9?queue<9?stage=1"), 3);
        due(13, "a FAULT between", customOf(x, "nogo=1"), -100);
        due(13, "THE TAPE is empty then", x.count(6), 0);
        due(13, "the numbers go on", customOf(x, "go=1?owner<5?earned=3"), 4);
        due(13, "a sixth", customOf(x, "fare=1"), 5);
        due(13, "count(5)", x.count(5), 6);
        due(13, "FULL with an empty TAPE", x.custom(), FULL);
        due(13, "FULL ahead of the FAULT", customOf(x, "xx"), FULL);
        due(13, "THE TAPE stays", x.count(6), 2);
    }

    private static void faults() {
        String tests3 = "go=5?sold<1?sold<1?sold<1";
        String lines8 = "go=1/go=1/go=1/go=1/go=1/go=1/go=1/go=1";
        String[] tapes = {"x", " go=5", "Go=5", "g", "gO=5", "go", "go=", "go =5", "go=x", "go=5x", "go=5 ", "go=5/",
            "go=5//", "go=12345", "fa", "far=5", "fares=1", "kee", "keeq", "go=5?", "go=5?x", "go=5?s", "go=5?sx",
            "go=5?st", "go=5?sto", "go=5?sol", "go=5?soldx", "go=5?sold", "go=5?sold<", "go=5?sold<x", "go=5?sold<=5",
            "go=5?sold<12345", "go=5?sold<1/", "go=5?sold<1?", "go=5?e", "go=5?earner", "go=5??", "go=5?go=1",
            tests3 + "?", tests3 + "?sold<1", tests3 + "/x", lines8 + "/", lines8 + "/go=1", lines8 + "?q", "\0", "/"};
        int[] places = {0, 0, 0, 1, 1, 2, 3, 2, 3, 4, 4, 5,
            5, 7, 2, 3, 4, 3, 3, 5, 5, 6, 6,
            7, 7, 8, 9, 9, 10, 10, 10,
            14, 12, 12, 6, 10, 5, 5,
            25, 25, 26, 39, 39, 41, 0, 0};
        for (int i = 0; i < tapes.length; i++) {
            due(13, "custom of " + tapes[i], customOf(new FillAndGo(), tapes[i]), -100 - places[i]);
        }
        due(13, "3 TESTS are fine", customOf(new FillAndGo(), tests3), 0);
        due(13, "8 LINES are fine", customOf(new FillAndGo(), lines8), 0);
        FillAndGo x = new FillAndGo();
        due(13, "a longer one", customOf(x, "go=1?sold<12345"), -114);
        due(13, "what stood behind it is gone", customOf(x, "go=1"), 0);
        x.bus(1, 0, 0, 0);
        x.force(0, 0);
        due(13, "no TEST of it", x.why(0, 0), 0);
        due(13, "ends too early", customOf(x, "go=1?sold<"), -110);
    }

    private static void force() {
        FillAndGo x = new FillAndGo();
        customOf(x, "go=7");
        customOf(x, "go=8");
        due(14, "force(-1, 9)", x.force(-1, 9), -5);
        due(14, "force(6, 0)", x.force(6, 0), -5);
        due(14, "force(0, 2)", x.force(0, 2), BAD);
        due(14, "force(0, -2)", x.force(0, -2), BAD);
        due(14, "force(5, 1)", x.force(5, 1), -1);
        due(14, "force(5, 0)", x.force(5, 0), 1);
        x.bus(1, 0, 0, 0);
        due(14, "another STAGE's", x.law(0, 0), 100);
        x.queue(0, 5);
        due(14, "its STAGE's", x.law(0, 0), 7);
        due(14, "force(5, -1)", x.force(5, -1), 0);
        due(14, "none", x.law(0, 0), 100);
    }

    private static void law() {
        FillAndGo x = new FillAndGo();
        x.bus(9, 3, 0, 0);
        due(15, "law(1, 9)", x.law(1, 9), NONE);
        due(15, "law(-1, 0)", x.law(-1, 0), NONE);
        due(15, "law(0, -1)", x.law(0, -1), BAD);
        due(15, "law(0, 3)", x.law(0, 3), BAD);
        due(15, "go", x.law(0, 0), 100);
        due(15, "fare", x.law(0, 1), 20);
        due(15, "keep", x.law(0, 2), 30);
        x.force(0, customOf(x, "go=9999/fare=0/go=3?owner=4/go=4?owner>3/go=5?owner<3/keep=7?owner=3?stage=0?rain=1"));
        due(15, "a number beyond the bound is told as it is", x.law(0, 0), 9999);
        due(15, "fare 0", x.law(0, 1), 0);
        due(15, "one TEST fails", x.law(0, 2), 30);
        x.rain(1);
        due(15, "all hold", x.law(0, 2), 7);
        FillAndGo y = oneBus(9, 0, 9, 0);
        y.bus(9, 0, 0, 0);
        y.queue(1, 0);
        y.force(0, customOf(y, "fare=1?waited>0/go=50?sold=2/fare=2?hour=1/fare=3?queue=1?waited>99/go=60?earned>0"));
        due(15, "waited 0", y.law(0, 1), 20);
        pass(y, 1);
        due(15, "SINCE is when it LOADS", y.law(0, 1), 1);
        due(15, "of one that QUEUES", y.law(1, 1), 1);
        pass(y, 60);
        due(15, "the hour", y.law(0, 1), 2);
        pass(y, 60);
        due(15, "queue", y.law(0, 1), 3);
        y.rest(1);
        due(15, "none QUEUES", y.law(0, 1), 1);
        y.people(0, 1, 99);
        pass(y, 3);
        due(15, "sold", y.busTold(0, 4), 2);
        due(15, "by sold", y.law(0, 0), 50);
        pass(y, 7);
        due(15, "it went, so it EARNED", y.law(0, 0), 60);
        FillAndGo q = new FillAndGo();
        q.bus(9, 0, 0, 0);
        q.force(0, customOf(q, "go=50?waited=0/go=60?waited=5"));
        pass(q, 7);
        q.queue(0, 0);
        due(15, "SINCE is when it comes to QUEUE", q.law(0, 0), 50);
        pass(q, 5);
        due(15, "5 MINUTES in the QUEUE", q.law(0, 0), 60);
        q.road(0, 1, 9);
        pass(q, 5);
        due(15, "5 MINUTES LOADING", q.law(0, 0), 60);
        FillAndGo z = oneBus(60, 2, 9, 0);
        z.force(0, customOf(z, "go=1?waited<0/go=2?waited=0"));
        pass(z, 1);
        z.hold(0, 5);
        due(15, "HELD: SINCE is still to come", z.law(0, 0), 1);
        pass(z, 5);
        due(15, "its MINUTE", z.law(0, 0), 2);
        pass(z, 1);
        due(15, "SINCE it RUNS again", z.law(0, 0), 100);
    }

    private static void why() {
        FillAndGo x = new FillAndGo();
        x.bus(9, 3, 0, 0);
        due(16, "why(1, 9)", x.why(1, 9), -5);
        due(16, "why(-1, 0)", x.why(-1, 0), -5);
        due(16, "why(0, 3)", x.why(0, 3), BAD);
        due(16, "why(0, -1)", x.why(0, -1), BAD);
        due(16, "by none", x.why(0, 0), NONE);
        customOf(x, "fare=3");
        x.force(0, customOf(x, "go=1/go=2/fare=3/go=4?owner=3/go=5?owner=2"));
        due(16, "the last one that holds", x.why(0, 0), 3);
        due(16, "fare", x.why(0, 1), 2);
        due(16, "keep: by none", x.why(0, 2), NONE);
        x.force(0, 0);
        due(16, "another CUSTOM", x.why(0, 1), 0);
        customOf(x, "go=1/go=2/fare=3/keep=4");
        x.force(0, customOf(x, "go=6"));
        due(16, "a shorter one behind a longer one", x.why(0, 0), 0);
        due(16, "has no more LINES", x.why(0, 1), NONE);
    }

    // ---- 17

    private static void minutes() {
        FillAndGo x = new FillAndGo();
        due(17, "minutes(0)", x.minutes(0), BAD);
        due(17, "minutes(-1)", x.minutes(-1), BAD);
        due(17, "minutes(201)", x.minutes(201), BAD);
        for (int k = 1; k <= 71; k++) due(17, "minutes(200)", x.minutes(200), 200 * k);
        due(17, "minutes(199)", x.minutes(199), 14399);
        due(17, "minutes(2)", x.minutes(2), FULL);
        due(17, "minutes(201)", x.minutes(201), BAD);
        due(17, "minutes(1)", x.minutes(1), 14400);
        due(17, "minutes(1)", x.minutes(1), FULL);
        due(17, "count(0)", x.count(0), 14400);
    }

    private static void loading() {
        FillAndGo x = new FillAndGo();
        x.people(0, 1, 99);
        x.people(0, 2, 99);
        x.people(0, 3, 50);
        pass(x, 9);
        x.road(0, 3, 9);
        x.road(0, 2, 2);
        x.bus(7, 0, 0, 3);
        x.bus(2, 0, 0, 0);
        x.queue(1, 0);
        x.queue(0, 0);
        x.jump(0, 0);
        due(17, "those that wait", x.waiting(0, 2), 8);
        pass(x, 1);
        due(17, "AIM: most wait, by a ROAD", x.busTold(0, 3), 2);
        due(17, "5 at most come in", x.busTold(0, 4), 5);
        due(17, "the others wait", x.waiting(0, 2), 4);
        due(17, "one LOADS at a time", x.busTold(1, 0), 1);
        due(17, "WAITED", x.count(4), 36 + 36 + 20 + 9 + 4 + 5);
        pass(x, 1);
        due(17, "as many as SEATS", x.busTold(0, 4), 7);
        due(17, "it RUNS", x.busTold(0, 0), 3);
        due(17, "FARE for each", x.busTold(0, 6), 140);
        due(17, "FUEL for each minute", x.busTold(0, 7), 6);
        due(17, "a run", x.busTold(0, 10), 1);
        due(17, "also in this MINUTE a minute less", x.busTold(0, 5), 1);
        due(17, "the other one waits for the next MINUTE", x.busTold(1, 0), 1);
        pass(x, 1);
        due(17, "it QUEUES at its AIM", x.busTold(0, 1), 2);
        due(17, "it QUEUES", x.busTold(0, 0), 1);
        due(17, "none SOLD", x.busTold(0, 4), 0);
        due(17, "RIDDEN", x.count(3), 7);
        due(17, "the other one went for 3, where most wait now", x.busTold(1, 3), 3);
        due(17, "all SEATS at once", x.busTold(1, 0), 3);
        FillAndGo y = oneBus(5, 0, 9, 0);
        y.road(0, 1, 0);
        pass(y, 5);
        due(17, "without a ROAD nothing LOADS", y.busTold(0, 0), 1);
        y.road(0, 4, 5);
        y.road(0, 2, 5);
        pass(y, 1);
        due(17, "of like ones the least STAGE", y.busTold(0, 3), 2);
        FillAndGo z = oneBus(1, 2, 9, 0);
        pass(z, 1);
        due(17, "a WAY of 1: there in the same MINUTE", z.busTold(0, 1), 1);
        due(17, "and QUEUES", z.busTold(0, 0), 1);
        pass(z, 1);
        due(17, "and back", z.busTold(0, 1), 0);
        due(17, "two runs", z.busTold(0, 10), 2);
        FillAndGo v = oneBus(5, 0, 10, 0);
        v.people(0, 1, 99);
        v.force(0, customOf(v, "go=31"));
        pass(v, 4);
        due(17, "3 of 10 are not 31 hundredths", v.busTold(0, 0), 2);
        v.force(0, customOf(v, "go=40"));
        pass(v, 1);
        due(17, "4 of 10 are 40 hundredths", v.busTold(0, 0), 3);
        due(17, "SOLD", v.busTold(0, 4), 4);
        FillAndGo t = new FillAndGo();
        t.road(0, 1, 60);
        for (int k = 0; k < 12; k++) t.bus(1, 0, 5, 0);
        for (int k = 0; k < 12; k++) t.wants(k, 2);
        for (int k = 11; k >= 0; k--) t.queue(k, 0);
        pass(t, 11);
        due(17, "eleven went, one a MINUTE", t.busTold(1, 5), 59);
        due(17, "the last one QUEUES", t.stageTold(0, 1), 0);
        pass(t, 1429);
        for (int k = 0; k < 12; k++) due(17, "each OWES", t.busTold(k, 9), 5);
        FillAndGo u = oneBus(5, 0, 40, 0);
        u.people(0, 1, 99);
        u.force(0, customOf(u, "go=98"));
        pass(u, 40);
        due(17, "39 of 40 are not 98 hundredths", u.busTold(0, 0), 2);
        pass(u, 1);
        due(17, "40 of 40 are", u.busTold(0, 0), 3);
    }

    private static void kindsOfRuns() {
        FillAndGo s = oneBus(5, 1, 3, 2);
        s.people(0, 1, 99);
        s.force(0, customOf(s, "fare=33"));
        pass(s, 4);
        due(17, "SHORT goes full", s.busTold(0, 0), 3);
        due(17, "SHORT EARNED", s.busTold(0, 6), 57);
        due(17, "SHORT SPENT", s.busTold(0, 7), 6);
        due(17, "SHORT LEFT", s.busTold(0, 5), 2);
        pass(s, 2);
        due(17, "SHORT QUEUES where it came from", s.busTold(0, 1), 0);
        due(17, "SHORT is back", s.busTold(0, 0), 1);
        due(17, "SHORT: half of them WALK, cut", s.count(2), 1);
        due(17, "SHORT RIDDEN", s.count(3), 2);
        FillAndGo t = oneBus(5, 1, 4, 2);
        t.people(0, 1, 99);
        pass(t, 8);
        due(17, "SHORT: half of 4 WALK", t.count(2), 2);
        FillAndGo e = oneBus(5, 2, 3, 2);
        e.people(0, 1, 99);
        pass(e, 3);
        due(17, "EMPTY RUNS", e.busTold(0, 0), 3);
        due(17, "EMPTY: none comes in", e.waiting(0, 1), 2);
        due(17, "EMPTY EARNED", e.busTold(0, 6), 0);
        due(17, "EMPTY SPENT", e.busTold(0, 7), 10);
        FillAndGo a = oneBus(5, 3, 5, 2);
        a.people(0, 1, 99);
        pass(a, 3);
        due(17, "EARLY with 2 of 5 not yet", a.busTold(0, 0), 2);
        pass(a, 1);
        due(17, "EARLY with 3 of 5", a.busTold(0, 0), 3);
        due(17, "EARLY EARNED", a.busTold(0, 6), 60);
        FillAndGo x = oneBus(5, 4, 5, 2);
        x.people(0, 1, 99);
        x.force(0, customOf(x, "fare=33/go=70"));
        pass(x, 3);
        due(17, "EXTRA with 2 of 5", x.busTold(0, 0), 3);
        due(17, "EXTRA EARNED", x.busTold(0, 6), 78);
        due(17, "EXTRA SPENT", x.busTold(0, 7), 15);
        FillAndGo h = oneBus(5, 5, 5, 2);
        h.people(0, 1, 99);
        pass(h, 2);
        due(17, "HIRED RUNS", h.busTold(0, 0), 3);
        due(17, "HIRED EARNED once", h.busTold(0, 6), 60);
        due(17, "HIRED LEFT", h.busTold(0, 5), 13);
        due(17, "HIRED SPENT", h.busTold(0, 7), 30);
        due(17, "HIRED: none comes in", h.waiting(0, 1), 1);
    }

    private static void dayEnds() {
        FillAndGo x = new FillAndGo();
        x.road(0, 1, 10);
        x.bus(5, 0, 440, 2);
        x.bus(5, 0, 9999, 0);
        x.bus(5, 0, 0, 0);
        x.wants(0, 5);
        pass(x, 1439);
        due(17, "not yet the last MINUTE", x.busTold(0, 9), 0);
        pass(x, 1);
        due(17, "OWES its TARGET", x.busTold(0, 9), 440);
        x.queue(0, 0);
        pass(x, 1439);
        due(17, "EARNED of 72 runs", x.busTold(0, 6), 4320);
        due(17, "SPENT of 72 runs", x.busTold(0, 7), 2880);
        pass(x, 1);
        due(17, "paid", x.busTold(0, 9), 0);
        due(17, "KEPT of what is left", x.busTold(0, 8), 168);
        due(17, "EARNED is 0", x.busTold(0, 6), 0);
        due(17, "SPENT is 0", x.busTold(0, 7), 0);
        due(17, "OWES more", x.busTold(1, 9), 19998);
        due(17, "neither", x.busTold(2, 8) + x.busTold(2, 9), 0);
        x.force(0, customOf(x, "keep=101?earned>4319/keep=33?earned<4320"));
        x.force(1, 0);
        pass(x, 1440);
        due(17, "100 hundredths at most", x.busTold(0, 8), 1168);
        FillAndGo y = new FillAndGo();
        y.bus(5, 0, 0, 0);
        y.bus(5, 0, 10, 0);
        y.bus(5, 0, 0, 0);
        y.queue(0, 0);
        y.queue(1, 0);
        y.jump(1, 7);
        pass(y, 1440);
        due(17, "SPENT counts", y.busTold(1, 9), 17);
        due(17, "just the TARGET: nothing", y.busTold(0, 9), 0);
        FillAndGo z = oneBus(10, 5, 5, 2);
        z.force(0, customOf(z, "keep=33"));
        z.force(1, 0);
        pass(z, 1440);
        due(17, "KEPT is cut", z.busTold(0, 8), 475);
    }

    // ---- 18 .. 22

    private static void busTold() {
        FillAndGo x = oneBus(5, 4, 4, 2);
        x.people(0, 1, 99);
        due(18, "busTold(1, 99)", x.busTold(1, 99), -5);
        due(18, "busTold(-1, 0)", x.busTold(-1, 0), -5);
        due(18, "busTold(0, 12)", x.busTold(0, 12), -7);
        due(18, "busTold(0, -1)", x.busTold(0, -1), -7);
        due(18, "its number", x.busTold(0, 2), 0);
        pass(x, 3);
        int[] want = {3, 0, -1000000, 1, 2, 4, 48, 15, 0, 0, 1, 4};
        for (int what = 0; what <= 11; what++) due(18, "busTold(0, " + what + ")", x.busTold(0, what), want[what]);
        pass(x, 4);
        int[] there = {1, 1, 0, 1, 0, 0, 48, 15, 0, 0, 1, 4};
        for (int what = 0; what <= 11; what++) due(18, "busTold(0, " + what + ")", x.busTold(0, what), there[what]);
    }

    private static void waiting() {
        FillAndGo x = new FillAndGo();
        due(19, "waiting(6, 6)", x.waiting(6, 6), NONE);
        due(19, "waiting(0, 6)", x.waiting(0, 6), NONE);
        due(19, "waiting(-1, 0)", x.waiting(-1, 0), NONE);
        due(19, "waiting(5, 5)", x.waiting(5, 5), BAD);
        x.people(5, 4, 50);
        pass(x, 7);
        due(19, "waiting(5, 4)", x.waiting(5, 4), 3);
        due(19, "waiting(4, 5)", x.waiting(4, 5), 0);
    }

    private static void stageTold() {
        FillAndGo x = new FillAndGo();
        due(20, "stageTold(6, 9)", x.stageTold(6, 9), -5);
        due(20, "stageTold(-1, 0)", x.stageTold(-1, 0), -5);
        due(20, "stageTold(0, 4)", x.stageTold(0, 4), -7);
        due(20, "stageTold(0, -1)", x.stageTold(0, -1), -7);
        for (int k = 0; k < 3; k++) x.bus(9, 0, 0, 0);
        for (int k = 2; k >= 0; k--) x.queue(k, 3);
        due(20, "how many QUEUE", x.stageTold(3, 0), 3);
        due(20, "who is next", x.stageTold(3, 1), 2);
        due(20, "none LOADS", x.stageTold(3, 2), -1);
        due(20, "no ROAD", x.stageTold(3, 3), -1);
        x.people(3, 5, 99);
        x.people(3, 1, 50);
        x.people(3, 0, 99);
        pass(x, 5);
        x.road(3, 4, 1);
        due(20, "a ROAD, none waits", x.stageTold(3, 3), 4);
        x.road(3, 1, 60);
        due(20, "more wait", x.stageTold(3, 3), 1);
        x.road(3, 5, 60);
        due(20, "most wait", x.stageTold(3, 3), 5);
        x.road(3, 0, 60);
        due(20, "of like ones the least", x.stageTold(3, 3), 0);
        pass(x, 1);
        due(20, "who LOADS", x.stageTold(3, 2), 2);
        due(20, "how many QUEUE", x.stageTold(3, 0), 2);
        due(20, "who is next", x.stageTold(3, 1), 1);
        due(20, "elsewhere none", x.stageTold(2, 0), 0);
    }

    private static void kindTold() {
        FillAndGo x = new FillAndGo();
        int[][] bad = {{-1, 0, 0}, {6, 0, 0}, {0, -1, 0}, {0, 4, 0}, {0, 0, -1}, {0, 0, 1000}};
        for (int[] b : bad) due(21, "kindTold of a bad number", x.kindTold(b[0], b[1], b[2]), BAD);
        int[] vs = {0, 1, 2, 99, 100, 101, 999};
        for (int v : vs) {
            int need = v < 1 ? 1 : v > 100 ? 100 : v;
            int[] needs = {need, need, 0, (need + 1) / 2, (need + 1) / 2, 0};
            int[] fares = {v, v * 6 / 10, 0, v, v * 6 / 5, 3 * v};
            int[] minutes = {v, v - v / 2, v, v, v, v + 10};
            int[] fuels = {v, v, v, v, v + 1, v};
            for (int kind = 0; kind < 6; kind++) {
                due(21, "NEED of " + kind, x.kindTold(kind, 0, v), needs[kind]);
                due(21, "FARE of " + kind, x.kindTold(kind, 1, v), fares[kind]);
                due(21, "MINUTES of " + kind, x.kindTold(kind, 2, v), minutes[kind]);
                due(21, "FUEL of " + kind, x.kindTold(kind, 3, v), fuels[kind]);
            }
        }
    }

    private static void count() {
        FillAndGo x = oneBus(2, 3, 2, 0);
        due(22, "count(-1)", x.count(-1), BAD);
        due(22, "count(10)", x.count(10), BAD);
        customOf(x, "go=1");
        customOf(x, "go=2");
        feedText(x, "abc");
        x.people(0, 1, 99);
        x.people(2, 3, 99);
        pass(x, 20);
        x.book(0, 0, 1);
        x.rain(1);
        x.round(4, 1);
        int rode = x.busTold(0, 10);
        int[] want = {20, 1, 2, rode, x.count(4), 2, 3, 1, 1, 4};
        due(22, "a run to the other STAGE", rode, 1);
        for (int what = 0; what <= 9; what++) due(22, "count(" + what + ")", x.count(what), want[what]);
        due(22, "WAITED of STAGE 2", x.count(4) - waitedAtZero(), 190 - 1);
    }

    /** What count() has WAITED at STAGE 0 alone, for the same BUS. */
    private static int waitedAtZero() {
        FillAndGo x = oneBus(2, 3, 2, 0);
        x.people(0, 1, 99);
        pass(x, 20);
        return x.count(4);
    }

    // ---- 23 .. 27

    private static void trip() {
        FillAndGo x = new FillAndGo();
        due(23, "trip(6, 6)", x.trip(6, 6), NONE);
        due(23, "trip(0, -1)", x.trip(0, -1), NONE);
        due(23, "trip(4, 4)", x.trip(4, 4), BAD);
        due(23, "trip(0, 5)", x.trip(0, 5), STATE);
        for (int s = 0; s < 5; s++) x.road(s, s + 1, 3);
        due(23, "four changes", x.trip(0, 5), 35);
        due(23, "and back", x.trip(5, 0), 35);
        due(23, "none", x.trip(2, 3), 3);
        x.road(0, 5, 36);
        due(23, "changes are less", x.trip(0, 5), 35);
        x.road(0, 5, 35);
        due(23, "alike", x.trip(0, 5), 35);
        x.road(0, 5, 34);
        due(23, "straight is less", x.trip(0, 5), 34);
        x.jam(0, 25);
        due(23, "each WAY is cut by itself", x.trip(0, 2), 19);
        x.jam(0, 1);
        due(23, "1 at least", x.trip(0, 2), 7);
        due(23, "by 0 and 5", x.trip(1, 5), 9);
        x.road(2, 3, 0);
        x.road(0, 5, 0);
        due(23, "a ROAD less", x.trip(0, 5), STATE);
    }

    private static void foretell() {
        FillAndGo x = oneBus(5, 0, 4, 0);
        due(24, "foretell(6, 0)", x.foretell(6, 0), NONE);
        due(24, "foretell(-1, 1)", x.foretell(-1, 1), NONE);
        due(24, "foretell(0, 0)", x.foretell(0, 0), BAD);
        due(24, "foretell(0, 241)", x.foretell(0, 241), BAD);
        due(24, "foretell(0, 240) while it QUEUES", x.foretell(0, 240), STATE);
        x.people(0, 1, 50);
        pass(x, 1);
        due(24, "foretell(0, 6)", x.foretell(0, 6), -6);
        due(24, "foretell(0, 7)", x.foretell(0, 7), 7);
        due(24, "foretell(0, 240)", x.foretell(0, 240), 7);
        due(24, "nothing changes", x.count(0), 1);
        pass(x, 6);
        due(24, "the next MINUTE", x.foretell(0, 1), 1);
        x.people(0, 1, 0);
        due(24, "none comes", x.foretell(0, 240), -6);
        due(24, "it LOADS still", x.busTold(0, 0), 2);
        FillAndGo y = oneBus(1, 0, 4, 0);
        pass(y, 1);
        y.force(0, customOf(y, "go=0?waited>3"));
        y.people(0, 1, 99);
        due(24, "goes and is there in the same MINUTE", y.foretell(0, 240), 4);
        FillAndGo z = oneBus(30, 0, 40, 0);
        pass(z, 1);
        z.people(0, 1, 99);
        z.force(0, customOf(z, "go=1?rain=1"));
        z.rain(1);
        due(24, "RAIN as it is", z.foretell(0, 240), 2);
    }

    private static void beside() {
        FillAndGo x = oneBus(5, 0, 4, 0);
        x.people(0, 1, 99);
        x.people(2, 3, 99);
        due(25, "beside(0, 0, 0)", x.beside(0, 0, 0), NO);
        due(25, "beside(241, 0, 0)", x.beside(241, 0, 0), NO);
        due(25, "beside(1, -1, 0)", x.beside(1, -1, 0), NO);
        due(25, "beside(1, 2, 0)", x.beside(1, 2, 0), NO);
        due(25, "beside(1, 0, -1)", x.beside(1, 0, -1), NO);
        due(25, "beside(1, 0, 3)", x.beside(1, 0, 3), NO);
        pass(x, 37);
        long[][] told = new long[2][3];
        for (int rain = 0; rain < 2; rain++) {
            for (int what = 0; what < 3; what++) told[rain][what] = x.beside(111, rain, what);
        }
        due(25, "nothing changes", x.count(0) + x.count(8), 37);
        due(25, "some RODE, some WALKED before", x.count(3) > 0 && x.count(2) > 0 ? 1 : 0, 1);
        for (int rain = 0; rain < 2; rain++) {
            FillAndGo y = oneBus(5, 0, 4, 0);
            y.people(0, 1, 99);
            y.people(2, 3, 99);
            pass(y, 37);
            y.rain(rain);
            long waited = y.count(4), ridden = y.count(3), walked = y.count(2);
            pass(y, 111);
            due(25, "WAITED", told[rain][0], y.count(4) - waited);
            due(25, "RIDDEN", told[rain][1], y.count(3) - ridden);
            due(25, "WALKED", told[rain][2], y.count(2) - walked);
        }
        due(25, "more WALK when it is dry", told[0][2] > told[1][2] ? 1 : 0, 1);
        FillAndGo z = new FillAndGo();
        pass(z, 14399);
        due(25, "up to MINUTE 14400", z.beside(1, 0, 0), 0);
        due(25, "beyond", z.beside(2, 0, 0), NO);
    }

    private static FillAndGo planTown() {
        FillAndGo x = new FillAndGo();
        x.road(0, 1, 4);
        x.road(2, 3, 4);
        x.people(0, 1, 99);
        x.people(2, 3, 50);
        x.bus(4, 0, 0, 0);
        x.bus(4, 0, 0, 0);
        pass(x, 10);
        return x;
    }

    private static void plan() {
        FillAndGo x = planTown();
        due(26, "plan of a missing SHEET", x.plan(0, 0, 1), NO);
        sheetOf(x, 0, 2, 0, 0, 1, 2, 0, 2);
        due(26, "plan(-1, 0, 1)", x.plan(-1, 0, 1), NO);
        due(26, "plan(4, 0, 1)", x.plan(4, 0, 1), NO);
        due(26, "plan(0, -1, 1)", x.plan(0, -1, 1), NO);
        due(26, "plan(0, 6, 1)", x.plan(0, 6, 1), NO);
        due(26, "plan(0, 0, 0)", x.plan(0, 0, 0), NO);
        due(26, "plan(0, 0, 121)", x.plan(0, 0, 121), NO);
        due(26, "an odd size", sheetOf(x, 1, 0, 0, 0, 1).plan(1, 5, 9), NO);
        due(26, "too many", sheetOf(x, 1, 0, 0, 0, 1, 0, 0, 0, 0, 0, 0, 0, 0, 0).plan(1, 5, 9), NO);
        due(26, "no such BUS", sheetOf(x, 1, 0, 2, 0).plan(1, 0, 9), NO);
        due(26, "no such STAGE", sheetOf(x, 1, 1, 0, 6).plan(1, 0, 9), NO);
        due(26, "BUS -1", sheetOf(x, 1, 0, -1, 0).plan(1, 0, 9), NO);
        due(27, "planned()", x.planned(), 0);
        due(26, "none put", x.plan(0, 0, 5), waitedBy(5));
        due(27, "planned()", x.planned(), 0);
        due(26, "one put: where more come", x.plan(0, 1, 30), waitedBy(30, 0, 0));
        due(27, "planned()", x.planned(), 1);
        due(26, "two put", x.plan(0, 2, 30), waitedBy(30, 0, 0, 1, 2));
        due(27, "planned()", x.planned(), 3);
        due(26, "of three no BUS twice", x.plan(0, 5, 30), waitedBy(30, 0, 0, 1, 2));
        due(27, "planned()", x.planned(), 3);
        due(26, "a refusal", x.plan(3, 5, 30), NO);
        due(27, "keeps what was planned", x.planned(), 3);
        due(26, "nothing changes", x.busTold(0, 0) + x.count(0), 10);
        due(26, "of like ones the least", sheetOf(x, 1, 0, 0, 5, 1, 5).plan(1, 2, 9), waitedBy(9));
        due(27, "planned()", x.planned(), 0);
        due(26, "like ones", sheetOf(x, 1, 1, 1, 0, 0, 0).plan(1, 1, 30), waitedBy(30, 0, 0));
        due(27, "planned()", x.planned(), 1);
        due(26, "an empty SHEET", sheetOf(x, 1, 2).plan(1, 5, 120), waitedBy(120));
        due(27, "planned()", x.planned(), 0);
        x.queue(0, 5);
        due(26, "one that QUEUES is in no set", x.plan(0, 5, 30), waitedBy(30, 1, 2));
        due(27, "planned()", x.planned(), 2);
        FillAndGo z = new FillAndGo();
        z.sheet(0, 0, 0);
        pass(z, 14300);
        due(26, "up to MINUTE 14400", z.plan(0, 0, 100), 0);
        due(26, "beyond", z.plan(0, 0, 101), NO);
        FillAndGo y = new FillAndGo();
        for (int k = 0; k < 5; k++) y.bus(4, 0, 0, 0);
        sheetOf(y, 3, 0, 0, 0, 1, 0, 2, 0, 3, 0, 4, 2);
        due(26, "one MINUTE, five places, none waits", y.plan(3, 5, 1), 0);
        due(27, "of like ones the least", y.planned(), 0);
        y.road(2, 3, 4);
        y.people(2, 3, 99);
        due(26, "only the fifth takes one in", y.plan(3, 5, 2), 0);
        due(27, "planned()", y.planned(), 16);
        due(26, "none of them", y.plan(3, 0, 2), 1);
        due(27, "planned()", y.planned(), 0);
    }

    private static long waitedBy(int n, int... places) {
        FillAndGo x = planTown();
        for (int i = 0; i + 1 < places.length; i += 2) x.queue(places[i], places[i + 1]);
        long before = x.count(4);
        pass(x, n);
        return x.count(4) - before;
    }

    // ---- 28 .. 34

    private static void gains() {
        FillAndGo x = new FillAndGo();
        due(28, "gain(-1, 0, -1)", x.gain(-1, 0, -1), NONE);
        due(28, "gain(6, 0, 0)", x.gain(6, 0, 0), NONE);
        due(28, "gain(0, -1, 0)", x.gain(0, -1, 0), NONE);
        due(28, "gain(0, 4, 0)", x.gain(0, 4, 0), NONE);
        due(28, "gain(5, 3, -1)", x.gain(5, 3, -1), BAD);
        due(28, "gain(5, 3, 10000)", x.gain(5, 3, 10000), BAD);
        due(28, "gain(5, 3, 9999)", x.gain(5, 3, 9999), 0);
        due(28, "gain(5, 3, 1)", x.gain(5, 3, 1), 9999);
        due(28, "gain(3, 5, 1)", x.gain(3, 5, 1), NONE);
        due(28, "gain(0, 0, 2)", x.gain(0, 0, 2), 0);
        due(28, "gain(0, 0, 3)", x.gain(0, 0, 3), 2);
        due(29, "fights(-1)", x.fights(-1), BAD);
        due(29, "fights(10000)", x.fights(10000), BAD);
        due(29, "fights(9999)", x.fights(9999), 0);
        due(29, "fights(3)", x.fights(3), 9999);
    }

    private static void part() {
        FillAndGo x = new FillAndGo();
        int[][] bad = {{0, 1, 1}, {7, 1, 1}, {1, 0, 1}, {1, 5, 1}, {1, 1, 0}, {1, 1, 7}};
        for (int[] b : bad) due(30, "part of a bad number", x.part(b[0], b[1], b[2], 9), BAD);
        due(30, "part(2, 2, 2, 2)", x.part(2, 2, 2, 2), -5);
        due(30, "part(2, 2, 2, -3)", x.part(2, 2, 2, -3), -5);
        due(30, "i ahead of STATE", x.part(2, 1, 1, 2), -5);
        due(30, "too many for one SIDE", x.part(2, 1, 1, -1), STATE);
        due(30, "none is QUIET", x.part(2, 1, 1, -2), 0);
        due(30, "all alike: all are QUIET", x.part(6, 4, 6, -2), 4096);
        due(30, "all alike: two each", x.part(4, 2, 2, -2), 6);
        for (int i = 0; i < 4; i++) due(30, "the first by ROUTES", x.part(4, 2, 2, i), i / 2);
        x.gain(0, 1, 10);
        x.gain(1, 1, 12);
        x.fights(12);
        due(30, "just the cost is QUIET", x.part(2, 2, 1, -2), 2);
        due(30, "the most together", x.part(2, 2, 1, -1), 12);
        due(30, "ROUTE 0", x.part(2, 2, 1, 0), 0);
        due(30, "ROUTE 1", x.part(2, 2, 1, 1), 1);
        x.fights(11);
        due(30, "below it not", x.part(2, 2, 1, -2), 1);
        x.fights(9);
        due(30, "none", x.part(2, 2, 1, 0), STATE);
        due(30, "with room for both", x.part(2, 2, 2, -1), 22);
        x.gain(0, 3, 500);
        due(30, "a SIDE that isn't among them does not matter", x.part(2, 2, 2, -1), 22);
        due(30, "one that is does", x.part(2, 4, 2, 0), 3);
        x.gain(3, 0, 9);
        x.fights(0);
        due(30, "another SIDE is the first one", x.part(4, 2, 4, 3), 0);
        due(30, "the QUIET ones", x.part(4, 2, 4, -2), 2);
        due(30, "one ROUTE, one SIDE", x.part(1, 1, 1, 0), 0);
    }

    private static void savings() {
        FillAndGo x = new FillAndGo();
        int[][] bad = {{1, 1}, {7, 1}, {2, 0}, {2, 1000}};
        for (int[] b : bad) due(31, "round of a bad number", x.round(b[0], b[1]), BAD);
        due(32, "stops(0)", x.stops(0), NONE);
        due(33, "turns()", x.turns(), STATE);
        due(34, "saved(0, 9)", x.saved(0, 9), -5);
        due(31, "round(3, 999)", x.round(3, 999), 3);
        due(31, "round(1, 1)", x.round(1, 1), BAD);
        due(31, "round(2, 1)", x.round(2, 1), STATE);
        due(32, "stops(3)", x.stops(3), NONE);
        due(32, "stops(-1)", x.stops(-1), NONE);
        due(34, "saved(3, 0)", x.saved(3, 0), -5);
        due(34, "saved(0, 3)", x.saved(0, 3), BAD);
        due(34, "saved(0, -1)", x.saved(0, -1), BAD);
        due(33, "turns()", x.turns(), 0);
        due(34, "paid in", x.saved(0, 0), 999);
        due(34, "took", x.saved(0, 1), 2997);
        due(32, "stops(0)", x.stops(0), -1998);
        due(32, "stops(0)", x.stops(0), STATE);
        due(34, "STOPPED", x.saved(0, 2), 1);
        due(34, "not STOPPED", x.saved(1, 2), 0);
        due(33, "turns()", x.turns(), 1);
        due(33, "turns()", x.turns(), 2);
        due(33, "turns(), 0 left out", x.turns(), 1);
        due(33, "turns()", x.turns(), 2);
        due(34, "0 pays no more", x.saved(0, 0), 999);
        due(34, "1 took", x.saved(1, 1), 3996);
        due(34, "2 paid in", x.saved(2, 0), 4995);
        due(32, "stops(2)", x.stops(2), 999);
        due(33, "turns()", x.turns(), 1);
        due(33, "turns()", x.turns(), 1);
        due(32, "stops(1)", x.stops(1), 999);
        due(33, "turns()", x.turns(), NONE);
        due(31, "one ROUND, once", x.round(2, 1), STATE);
        FillAndGo y = new FillAndGo();
        due(31, "round(2, 1)", y.round(2, 1), 2);
        for (int k = 0; k < 5; k++) due(33, "round and round", y.turns(), k % 2);
        due(34, "took", y.saved(0, 1), 6);
        FillAndGo z = new FillAndGo();
        due(31, "round(6, 7)", z.round(6, 7), 6);
        z.stops(5);
        for (int k = 0; k < 8; k++) due(33, "from the last to the first", z.turns(), k % 5);
        due(34, "took", z.saved(2, 1), 70);
    }

    // ---- 35 .. 39

    private static void books() {
        FillAndGo x = new FillAndGo();
        due(35, "book(0, 10, 0)", x.book(0, 10, 0), NONE);
        x.bus(1, 0, 0, 0);
        due(35, "book(0, -1, 0)", x.book(0, -1, 0), BAD);
        due(35, "book(0, 10, 0)", x.book(0, 10, 0), BAD);
        due(35, "book(0, 0, -1)", x.book(0, 0, -1), BAD);
        due(35, "book(0, 0, 1000001)", x.book(0, 0, 1000001), BAD);
        due(36, "mend(0, 0)", x.mend(0, 0), NONE);
        for (int k = 0; k < 30; k++) due(35, "book", x.book(0, 9, 1000000 - k), k);
        due(35, "book(0, 10, 0)", x.book(0, 10, 0), BAD);
        due(35, "book(0, 0, 0)", x.book(0, 0, 0), FULL);
        due(36, "mend(30, -1)", x.mend(30, -1), NONE);
        due(36, "mend(-1, 0)", x.mend(-1, 0), NONE);
        due(36, "mend(29, -1)", x.mend(29, -1), BAD);
        due(36, "mend(29, 1000001)", x.mend(29, 1000001), BAD);
        due(36, "mend(29, 0)", x.mend(29, 0), 999971);
        due(36, "mend(29, -1)", x.mend(29, -1), BAD);
        due(36, "mend(29, 0)", x.mend(29, 0), STATE);
        due(36, "mend(0, 1000000)", x.mend(0, 1000000), 1000000);
        due(37, "all", x.told(0, 9, 0), 29L * 1000000 - 406);
    }

    private static void told() {
        FillAndGo x = new FillAndGo();
        due(37, "told(0, 9, 0)", x.told(0, 9, 0), NO);
        x.bus(1, 0, 0, 0);
        x.bus(1, 0, 0, 0);
        due(37, "told(2, 9, 0)", x.told(2, 9, 0), NO);
        due(37, "told(0, -1, 0)", x.told(0, -1, 0), NO);
        due(37, "told(0, 100, 0)", x.told(0, 100, 0), NO);
        due(37, "told(0, 10, 0)", x.told(0, 10, 0), NO);
        due(37, "told(0, 98, 0)", x.told(0, 98, 0), NO);
        due(37, "told(0, 99, -1)", x.told(0, 99, -1), NO);
        due(37, "told(0, 99, 1)", x.told(0, 99, 1), NO);
        due(37, "told(0, 99, 0)", x.told(0, 99, 0), 0);
        x.book(0, 3, 100);
        x.book(1, 3, 1000);
        pass(x, 5);
        x.book(0, 4, 20);
        due(37, "mend(0, 7)", x.mend(0, 7), 100);
        pass(x, 5);
        x.book(0, 5, 3);
        due(37, "KNOWN in 0", x.told(0, 9, 0), 100);
        due(37, "KNOWN in 4", x.told(0, 9, 4), 100);
        due(37, "KNOWN in 5", x.told(0, 9, 5), 27);
        due(37, "KNOWN in 10", x.told(0, 9, 10), 30);
        due(37, "day 0", x.told(0, 0, 10), 0);
        due(37, "days 0 to 3", x.told(0, 3, 10), 7);
        due(37, "days 4 to 5", x.told(0, 45, 10), 23);
        due(37, "days 4 to 4", x.told(0, 44, 10), 20);
        due(37, "day 6 on", x.told(0, 69, 10), 0);
        due(37, "another BUS", x.told(1, 9, 10), 1000);
    }

    private static void images() {
        FillAndGo x = oneBus(5, 0, 4, 2);
        due(39, "back()", x.back(), STATE);
        x.people(0, 1, 50);
        pass(x, 7);
        x.rain(1);
        due(38, "image()", x.image(), 7);
        int[] bus = new int[12], counts = new int[10];
        for (int what = 0; what < 12; what++) bus[what] = x.busTold(0, what);
        for (int what = 0; what < 10; what++) counts[what] = x.count(what);
        pass(x, 100);
        x.rain(0);
        x.wants(0, 2);
        x.people(0, 1, 51);
        x.road(0, 1, 6);
        x.jam(0, 11);
        customOf(x, "go=9");
        x.force(0, 0);
        x.round(2, 1);
        x.book(0, 0, 5);
        x.bus(7, 1, 1, 1);
        x.wants(1, 3);
        x.queue(1, 0);
        pass(x, 1440);
        due(39, "back()", x.back(), 7);
        for (int what = 0; what < 12; what++) {
            due(39, "busTold(0, " + what + ")", x.busTold(0, what), bus[what]);
            due(39, "busTold(1, " + what + ")", x.busTold(1, what), what == 2 ? -1000000 : 0);
        }
        int[] want = {7, 2, counts[2], counts[3], counts[4], 1, 0, 1, 1, 2};
        for (int what = 0; what < 10; what++) due(39, "count(" + what + ")", x.count(what), want[what]);
        due(39, "who waits", x.waiting(0, 1), 0);
        due(39, "what it WANTS stays", x.wants(0, 2), 2);
        due(39, "what it WANTS stays", x.wants(1, 2), 3);
        due(39, "rates stay", x.people(0, 1, 50), 51);
        due(39, "ROADS stay", x.road(0, 1, 5), 6);
        due(39, "JAM stays", x.jam(0, 10), 11);
        due(39, "CUSTOMS stay", x.force(0, -1), 0);
        due(39, "a number as then", x.queue(1, 0), 1);
        due(39, "a number elsewhere", x.busTold(1, 2), 1);
        pass(x, 1);
        due(39, "half a PERSON was kept", x.busTold(0, 4), 4);
        due(39, "once more", x.back(), 7);
        pass(x, 1);
        due(38, "image() again", x.image(), 8);
        pass(x, 1);
        due(39, "the latest", x.back(), 8);
        imageOfBuses();
    }

    private static void imageOfBuses() {
        FillAndGo x = oneBus(20, 5, 4, 1);
        for (int k = 0; k < 3; k++) x.bus(4, 0, 100, 1);
        pass(x, 1435);
        for (int k = 1; k < 4; k++) x.queue(k, 5);
        x.jump(3, 11);
        pass(x, 15);
        x.force(5, customOf(x, "go=7?waited=15"));
        x.hold(0, 5);
        x.image();
        int[][] told = new int[4][12];
        int[] laws = new int[4];
        for (int b = 0; b < 4; b++) {
            for (int what = 0; what < 12; what++) told[b][what] = x.busTold(b, what);
            laws[b] = x.law(b, 0);
        }
        due(39, "minutes LEFT", told[0][5] > 0 ? 1 : 0, 1);
        due(39, "EARNED, SPENT", told[0][6] > 0 && told[0][7] > 0 ? 1 : 0, 1);
        due(39, "KEPT, OWES", told[0][8] > 0 && told[1][9] > 0 ? 1 : 0, 1);
        due(39, "a number below 0", told[3][2], -1);
        due(39, "waited", laws[1], 7);
        x.jump(1, 3);
        x.road(5, 4, 3);
        pass(x, 1600);
        x.jump(2, 3);
        x.rest(3);
        due(39, "back()", x.back(), 1450);
        for (int b = 0; b < 4; b++) {
            for (int what = 0; what < 12; what++) due(39, "busTold(" + b + ", " + what + ")", x.busTold(b, what), told[b][what]);
            due(39, "SINCE of " + b, x.law(b, 0), laws[b]);
        }
    }

    // ---- 40 .. 44

    private static void sheets() {
        FillAndGo x = new FillAndGo();
        due(40, "sheet(-1, 0, -1)", x.sheet(-1, 0, -1), BAD);
        due(40, "sheet(4, -1, 0)", x.sheet(4, -1, 0), BAD);
        due(40, "sheet(0, -2, 0)", x.sheet(0, -2, 0), BAD);
        due(40, "sheet(0, 3, -1)", x.sheet(0, 3, -1), BAD);
        due(40, "sheet(0, 2, 41)", x.sheet(0, 2, 41), BAD);
        due(40, "sheet(0, 2, -1)", x.sheet(0, 2, -1), -14);
        due(40, "sheet(0, -1, 99)", x.sheet(0, -1, 99), 1);
        due(41, "cell(-1, 0, 0)", x.cell(-1, 0, 0), BAD);
        due(41, "cell(4, 0, 0)", x.cell(4, 0, 0), BAD);
        due(41, "cell(0, -1, 0)", x.cell(0, -1, 0), -11);
        due(40, "sheet(0, 2, 40)", x.sheet(0, 2, 40), 1);
        due(41, "cell(0, 40, 0)", x.cell(0, 40, 0), -12);
        due(41, "cell(0, -1, 0)", x.cell(0, -1, 0), -12);
        due(41, "cell(0, 39, 1)", x.cell(0, 39, 1), 1);
        due(40, "sheet(0, 0, 0)", x.sheet(0, 0, 0), 1);
        due(41, "cell(0, 0, 0)", x.cell(0, 0, 0), -12);
        due(40, "missing again", x.sheet(0, -1, -1), 1);
        due(41, "cell(0, 0, 0)", x.cell(0, 0, 0), -11);
        x.bus(1, 0, 0, 0);
        due(41, "a byte's lowest 8 bits", sheetOf(x, 1, 0, 261, 256, 0, 0).buses(1, 0, 0, 1), 1);
        due(41, "a byte's sign", sheetOf(x, 1, 0, 5, 0, 128, 0).buses(1, 0, 0, 1), 0);
        due(41, "a short's lowest 16 bits", sheetOf(x, 1, 1, 65541, 65536, 9999, 0).buses(1, 1, 0, 1), 1);
        due(41, "a short's sign", sheetOf(x, 1, 1, 5, 0, 40000, 0).buses(1, 1, 0, 1), 0);
        due(41, "an int stays", sheetOf(x, 1, 2, 65541, 0, 0, 0).buses(1, 2, 0, 1), 0);
        sheetOf(x, 1, 2, 5, 0, 0, 0);
        x.sheet(1, 2, 4);
        due(40, "all 0", x.buses(1, 2, 0, 1), 0);
    }

    private static void copies() {
        FillAndGo x = new FillAndGo();
        due(42, "copy(-1, 0, 0, 0, 0)", x.copy(-1, 0, 0, 0, 0), BAD);
        due(42, "copy(0, 0, 4, 0, 0)", x.copy(0, 0, 4, 0, 0), BAD);
        due(42, "copy of missing ones", x.copy(0, -1, 1, 0, 0), -11);
        sheetOf(x, 0, 2, 1, 0, 0, 0);
        due(42, "to a missing one", x.copy(0, -1, 1, 0, 0), -11);
        due(42, "from a missing one", x.copy(1, -1, 0, 0, 0), -11);
        x.sheet(1, 1, 9);
        due(42, "unlike sorts", x.copy(0, -1, 1, 0, 0), -13);
        x.sheet(1, 2, 8);
        int[][] outside = {{-1, 0, 1}, {0, -1, 1}, {0, 0, -1}, {5, 0, 0}, {0, 9, 0}, {1, 0, 4}, {0, 5, 4},
            {0, 0, 5}, {2147483647, 0, 2147483647}, {1, 0, 2147483647}, {0, 2147483647, 1}};
        for (int[] o : outside) due(42, "copy outside", x.copy(0, o[0], 1, o[1], o[2]), -12);
        due(42, "none at the end", x.copy(0, 4, 1, 8, 0), 0);
        due(42, "four", x.copy(0, 0, 1, 4, 4), 4);
        due(42, "they are there", x.buses(1, 2, 0, 2), 1);
        due(42, "in its own, forward", sheetOf(x, 2, 2, 7, 1, 1, 1, 1).copy(2, 0, 2, 1, 4), 4);
        due(42, "as they were: 7, 7, 1, 1, 1", x.buses(2, 2, 1, 1), 1);
        due(42, "TARGET, FUEL of them", x.buses(2, 2, 0, 1), 0);
        due(42, "in its own, back", sheetOf(x, 2, 2, 9, 3, 4, 5, 6).copy(2, 1, 2, 0, 4), 4);
        due(42, "3, 4, 5, 6, 6", x.buses(2, 2, 0, 1), 1);
        x.queue(2, 0);
        x.force(0, customOf(x, "fare=77?owner=4"));
        due(42, "its OWNER", x.law(2, 1), 77);
    }

    private static void busesBySheet() {
        FillAndGo x = new FillAndGo();
        due(43, "buses(-1, 0, 0, 0)", x.buses(-1, 0, 0, 0), BAD);
        due(43, "buses(4, 0, 0, 0)", x.buses(4, 0, 0, 0), BAD);
        due(43, "buses(0, -1, 0, 0)", x.buses(0, -1, 0, 0), BAD);
        due(43, "buses(0, 3, 0, 0)", x.buses(0, 3, 0, 0), BAD);
        due(43, "buses(0, 0, 0, -1)", x.buses(0, 0, 0, -1), BAD);
        due(43, "buses(0, 0, 0, 11)", x.buses(0, 0, 0, 11), BAD);
        due(43, "buses(0, 0, 0, 0)", x.buses(0, 0, 0, 0), -11);
        sheetOf(x, 0, 0, 0, 4, 1, 50, 2, 0, 0, 0, 0, 6, 2, 60, 3, 1, 1, 1);
        due(43, "buses(0, 1, 0, 0)", x.buses(0, 1, 0, 0), -13);
        due(43, "none", x.buses(0, 0, 0, 0), 0);
        due(43, "one is left out", x.buses(0, 0, 1, 3), 2);
        due(43, "count(1)", x.count(1), 2);
        due(43, "what stood ahead came", x.buses(0, 0, 1, 4), -12);
        due(43, "count(1)", x.count(1), 4);
        due(43, "ahead of it", x.buses(0, 0, -1, 1), -12);
        due(43, "far away", x.buses(0, 0, 2147483647, 10), -12);
        due(43, "far below", x.buses(0, 0, -2147483648, 10), -12);
        pass(x, 1440);
        due(43, "the TARGET of the second", x.busTold(1, 9), 60);
        x.sheet(1, 2, 40);
        for (int k = 0; k < 10; k++) x.cell(1, 4 * k, 1);
        due(43, "as many as there is room for", x.buses(1, 2, 0, 10), 8);
        due(43, "count(1)", x.count(1), 12);
        due(43, "FULL: all are left out", x.buses(1, 2, 36, 1), 0);
    }

    private static void taken() {
        boolean[][] is = new boolean[6][6];
        for (int kind = 0; kind < 6; kind++) {
            is[kind][0] = true;
            is[kind][kind] = true;
        }
        is[4][3] = true;
        is[5][2] = true;
        for (int kind = 0; kind < 6; kind++) {
            FillAndGo x = oneBus(9, kind, 3, 0);
            due(44, "taken(1, 6)", x.taken(1, 6), BAD);
            due(44, "taken(0, -1)", x.taken(0, -1), BAD);
            due(44, "taken(1, 0)", x.taken(1, 0), -11);
            due(44, "taken(-1, 0)", x.taken(-1, 0), -11);
            due(44, "one that QUEUES", x.taken(0, 0), -13);
            pass(x, 1);
            for (int as = 0; as < 6; as++) {
                due(44, "KIND " + kind + " taken for " + as, x.taken(0, as), is[kind][as] ? kind : -13);
            }
            if (x.busTold(0, 0) != 3) continue;
            x.hold(0, 2);
            due(44, "HELD", x.taken(0, 0), kind);
            pass(x, 30);
            if (x.busTold(0, 0) == 1) due(44, "QUEUES again", x.taken(0, 0), -13);
        }
        FillAndGo y = new FillAndGo();
        y.bus(1, 0, 0, 0);
        due(44, "one that RESTS", y.taken(0, 0), -13);
    }

    private static void constants() {
        due(1, "NONE", FillAndGo.NONE, NONE);
        due(1, "BAD", FillAndGo.BAD, BAD);
        due(1, "STATE", FillAndGo.STATE, STATE);
        due(1, "FULL", FillAndGo.FULL, FULL);
        due(1, "NO", FillAndGo.NO, NO);
    }
}
