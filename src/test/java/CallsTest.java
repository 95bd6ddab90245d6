/** The sentences of promises 1 to 22 that name a boundary and are not told in "Terms": each by itself. */
public final class CallsTest extends Testing {
    public static void main(String[] args) {
        newObject();
        whatItWas();
        queueAtEachStage();
        restsAtItsStage();
        jumpsAheadOfTheLeast();
        jumpsOfThoseThere();
        jumpIsSpent();
        firstDoesNotJump();
        holdTellsMinutesLeft();
        wantsOfEachKind();
        feedLowestBytes();
        feedUpTo160();
        customEmptiesTheTape();
        forceOfEachStage();
        lawTellsTheNumberItself();
        whyFromZeroOn();
        minutesOneTo200();
        numberOfABus();
        latestKind();
        whoIsNext();
        whereMostWaitToGo();
        countOfAll();
        end();
    }

    // ---- 1 .. 8

    private static void newObject() {
        by("FillAndGo(): No ROADS, BUSES; MINUTE 0");
        String unlike = Looks.between(FillAndGo::new, FillAndGo::new);
        due("two new ones are unlike: " + unlike, unlike.length(), 0);
        FillAndGo x = new FillAndGo(), y = new FillAndGo();
        for (int what = 0; what < 10; what++) due("count(" + what + ")", x.count(what), 0);
        x.road(0, 1, 5);
        x.bus(1, 0, 0, 0);
        x.minutes(9);
        x.rain(1);
        due("another one's ROADS", y.trip(0, 1), STATE);
        due("another one's BUSES", y.count(1), 0);
        due("another one's MINUTE", y.count(0), 0);
        due("another one's RAIN", y.count(8), 0);
    }

    private static void whatItWas() {
        by("what it was");
        FillAndGo x = new FillAndGo();
        int told = 0;
        for (int a = 0; a < 6; a++) {
            for (int b = 0; b < 6; b++) {
                if (a == b) continue;
                due("people", x.people(a, b, 10 * a + b), 0);
                if (a < b) due("road", x.road(a, b, 10 * a + b), 0);
            }
        }
        for (int a = 0; a < 6; a++) {
            for (int b = 0; b < 6; b++) {
                if (a == b) continue;
                due("people(" + a + ", " + b + ")", x.people(a, b, 99), 10 * a + b);
                due("road(" + a + ", " + b + ")", x.road(a, b, told % 61), a < b ? 10 * a + b : lastTold(a, b));
                told++;
            }
        }
    }

    /** What the loop above told of the ROAD from b to a. */
    private static int lastTold(int a, int b) {
        int told = 0;
        for (int from = 0; from < 6; from++) {
            for (int to = 0; to < 6; to++) {
                if (from == to) continue;
                if (from == b && to == a) return told % 61;
                told++;
            }
        }
        return -1;
    }

    private static void queueAtEachStage() {
        by("A BUS that RESTS comes to QUEUE at a STAGE: its number there");
        for (int s = 0; s < 6; s++) {
            FillAndGo x = withBuses(2);
            due("queue(0, " + s + ")", x.queue(0, s), 0);
            due("queue(1, " + s + ")", x.queue(1, s), 1);
            dueOfBus("it QUEUES", x, 1, 1, s, 1);
            due("how many", x.stageTold(s, 0), 2);
            due("once more", x.queue(0, s), STATE);
            due("nor elsewhere", x.queue(0, (s + 1) % 6), STATE);
        }
    }

    private static void restsAtItsStage() {
        by("A BUS that QUEUES RESTS: its STAGE");
        for (int s = 0; s < 6; s++) {
            FillAndGo x = withBuses(1);
            x.queue(0, s);
            due("rest(0)", x.rest(0), s);
            dueOfBus("it RESTS", x, 0, 0, s, -1000000);
            due("none QUEUES", x.stageTold(s, 0), 0);
            due("once more", x.rest(0), STATE);
            due("it may QUEUE elsewhere", x.queue(0, 5 - s), s == 5 - s ? 1 : 0);
        }
    }

    // ---- 9 .. 11

    private static void jumpsAheadOfTheLeast() {
        by("its number is 1 less than the least of those that QUEUE there");
        FillAndGo x = withBuses(12);
        for (int b = 0; b < 12; b++) x.queue(b, 3);
        for (int k = 1; k <= 30; k++) {
            int last = k < 12 ? k : 1 + (k - 1) % 11;
            due("jump(" + last + ", 0)", x.jump(last, 0), -k);
            due("who is next", x.stageTold(3, 1), last);
        }
        x.rest(8);
        due("the least that is left", x.busTold(x.stageTold(3, 1), 2), -29);
        due("the STAGE gives on", x.queue(8, 3), 12);
        due("1 less than that", x.jump(8, 0), -30);
    }

    private static void jumpsOfThoseThere() {
        by("the least of those that QUEUE there");
        FillAndGo x = withBuses(6);
        x.queue(0, 1);
        x.queue(1, 1);
        x.jump(1, 0);
        x.jump(0, 0);
        due("far below 0 at another STAGE", x.busTold(0, 2), -2);
        x.queue(2, 0);
        x.queue(3, 0);
        x.queue(4, 0);
        x.road(0, 5, 9);
        x.minutes(1);
        due("one LOADS", x.busTold(2, 0), 2);
        due("one that LOADS does not QUEUE", x.jump(4, 0), 0);
        due("who is next", x.stageTold(0, 1), 4);
        x.rest(4);
        due("alone with one", x.jump(3, 0), -6);
        x.queue(5, 0);
        due("1 less than 1", x.jump(5, 0), 0);
    }

    private static void jumpIsSpent() {
        by("so much more is SPENT");
        FillAndGo x = withBuses(2);
        x.queue(0, 0);
        x.queue(1, 0);
        due("jump(1, 0)", x.jump(1, 0), -1);
        due("SPENT 0", x.busTold(1, 7), 0);
        due("jump(0, 9999)", x.jump(0, 9999), -2);
        due("SPENT 9999", x.busTold(0, 7), 9999);
        x.jump(1, 1);
        x.jump(0, 9999);
        due("SPENT more", x.busTold(0, 7), 19998);
        due("SPENT 1", x.busTold(1, 7), 1);
        due("-6 costs nothing", x.jump(0, 5), -6);
        due("SPENT as it was", x.busTold(0, 7), 19998);
    }

    private static void firstDoesNotJump() {
        by("-6: it is the first");
        FillAndGo x = withBuses(2);
        x.queue(1, 4);
        due("alone", x.jump(1, 5), -6);
        x.queue(0, 4);
        due("ahead of another", x.jump(1, 5), -6);
        due("the second may", x.jump(0, 5), -1);
        due("and is the first then", x.jump(0, 5), -6);
        due("who was the first may", x.jump(1, 5), -2);
    }

    private static void holdTellsMinutesLeft() {
        by("minutes LEFT");
        FillAndGo x = oneBus(60, 5, 1, 0);
        x.jam(0, 50);
        x.minutes(1);
        due("the most", x.hold(0, 600), 309);
        due("it is HELD", x.busTold(0, 0), 4);
        FillAndGo y = oneBus(2, 2, 1, 0);
        y.minutes(1);
        due("the least", y.hold(0, 1), 1);
        due("HELD already", y.hold(0, 1), STATE);
        by("(SINCE is the MINUTE in which it RUNS again)");
        FillAndGo z = oneBus(60, 2, 1, 0);
        z.minutes(1);
        z.hold(0, 600);
        forceText(z, 0, "go=1?waited<0/go=2?waited=0/go=3?waited>0");
        pass(z, 599);
        due("MINUTE 600", z.law(0, 0), 1);
        pass(z, 1);
        due("MINUTE 601", z.law(0, 0), 2);
        due("HELD until it has gone by", z.busTold(0, 0), 4);
        pass(z, 1);
        due("it RUNS", z.busTold(0, 0), 3);
        due("MINUTE 602", z.law(0, 0), 3);
    }

    private static void wantsOfEachKind() {
        by("A BUS WANTS a KIND of its next run: which it was");
        FillAndGo x = withBuses(12);
        for (int b = 0; b < 12; b++) due("at first", x.wants(b, b % 6), 0);
        for (int b = 0; b < 12; b++) due("each its own", x.wants(b, 5), b % 6);
        for (int kind = 5; kind >= 0; kind--) due("wants(11, " + kind + ")", x.wants(11, kind), Math.min(5, kind + 1));
    }

    // ---- 12 .. 17

    private static void feedLowestBytes() {
        by("The n lowest bytes of w, the highest first, come behind THE TAPE's: how many it has");
        String text = "fare=7/go=12?sold<99";
        for (int n = 1; n <= 8; n++) {
            FillAndGo x = withBuses(1);
            for (int i = 0; i < text.length(); i += n) {
                int m = Math.min(n, text.length() - i);
                long w = 0x7878787878787878L;
                for (int k = 0; k < m; k++) w = w << 8 | text.charAt(i + k);
                due("feed of " + m, x.feed(w, m), i + m);
                due("count(6)", x.count(6), i + m);
            }
            due("a CUSTOM, fed by " + n, x.custom(), 0);
            x.force(0, 0);
            due("its second LINE", x.law(0, 0), 12);
        }
        by("bytes are those of the lowest 8 bits, also above 127");
        FillAndGo z = new FillAndGo();
        due("feed(-1, 8)", z.feed(-1L, 8), 8);
        due("a FAULT", z.custom(), -100);
        due("feed(Long.MIN_VALUE, 1)", z.feed(Long.MIN_VALUE, 1), 1);
        due("a FAULT", z.custom(), -100);
    }

    private static void feedUpTo160() {
        by("THE TAPE (160 bytes at most) .. FULL");
        for (int n = 1; n <= 8; n++) {
            FillAndGo x = new FillAndGo();
            for (int k = 0; k < 152; k += 8) x.feed(0, 8);
            for (int k = 152; k < 160 - n; k++) x.feed(0, 1);
            due("just full by " + n, x.feed(0, n), 160);
            due("count(6)", x.count(6), 160);
            due("no more", x.feed(0, 1), FULL);
            FillAndGo y = new FillAndGo();
            for (int k = 0; k < 152; k += 8) y.feed(0, 8);
            for (int k = 152; k < 161 - n; k++) y.feed(0, 1);
            due("too many by one of " + n, y.feed(0, n), FULL);
            due("count(6)", y.count(6), 161 - n);
        }
    }

    private static void customEmptiesTheTape() {
        by("THE TAPE, which is empty then, is a CUSTOM: its number; -100 less the place of its FAULT");
        FillAndGo x = new FillAndGo();
        due("of nothing", x.custom(), -100);
        feedText(x, "go=1");
        due("a CUSTOM", x.custom(), 0);
        due("empty", x.count(6), 0);
        due("nothing is left of it", x.custom(), -100);
        feedText(x, "go=1!");
        due("a FAULT", x.custom(), -104);
        due("empty", x.count(6), 0);
        feedText(x, "/go=2");
        due("it is not behind the other one", x.custom(), -100);
        due("CUSTOMS", x.count(5), 1);
    }

    private static void forceOfEachStage() {
        by("The CUSTOM of a STAGE (-1: none): which it was");
        FillAndGo x = new FillAndGo();
        due("none is there", x.force(0, 0), BAD);
        due("-1 of none", x.force(0, -1), -1);
        for (int c = 0; c < 6; c++) customOf(x, "go=" + c);
        for (int s = 0; s < 6; s++) due("at first", x.force(s, s), -1);
        for (int s = 0; s < 6; s++) due("each its own", x.force(s, 5), s);
        for (int s = 0; s < 6; s++) due("then all the last", x.force(s, -1), 5);
        for (int s = 0; s < 6; s++) due("then none", x.force(s, -1), -1);
        due("one beyond", x.force(0, 6), BAD);
        due("one below", x.force(0, -2), BAD);
    }

    private static void lawTellsTheNumberItself() {
        by("What a KEY (0 go, 1 fare, 2 keep) says of a BUS now");
        int[] numbers = {0, 1, 100, 101, 9999};
        String[] keys = {"go", "fare", "keep"};
        for (int key = 0; key < 3; key++) {
            FillAndGo x = withBuses(1);
            x.wants(0, 5);
            for (int i = 0; i < 5; i++) {
                forceText(x, 0, keys[key] + "=" + numbers[i]);
                due(keys[key] + "=" + numbers[i], x.law(0, key), numbers[i]);
            }
        }
    }

    private static void whyFromZeroOn() {
        by("By which LINE (from 0 on) .. NONE: by none");
        FillAndGo x = withBuses(1);
        due("without a CUSTOM", x.why(0, 0), NONE);
        forceText(x, 0, "go=100/fare=20/keep=30");
        for (int key = 0; key < 3; key++) due("each by its LINE", x.why(0, key), key);
        forceText(x, 0, "fare=1/go=1?rain=1/fare=2?rain=1/go=2?rain=1/fare=3/keep=1/keep=2/go=3");
        due("the last LINE", x.why(0, 0), 7);
        due("one between", x.why(0, 1), 4);
        due("the last of two", x.why(0, 2), 6);
        forceText(x, 0, "go=1?rain=1");
        due("none holds", x.why(0, 0), NONE);
        due("of six CUSTOMS each has its own LINES", x.force(0, 0), 2);
        due("from 0 on", x.why(0, 0), 0);
    }

    private static void minutesOneTo200() {
        by("n MINUTES (1 .. 200): MINUTE .. FULL: beyond 14400");
        FillAndGo x = new FillAndGo();
        due("1", x.minutes(1), 1);
        due("200", x.minutes(200), 201);
        due("0", x.minutes(0), BAD);
        due("201", x.minutes(201), BAD);
        passTo(x, 14201);
        due("beyond by one", x.minutes(200), FULL);
        due("count(0)", x.count(0), 14201);
        due("just to the end", x.minutes(199), 14400);
        due("1 more", x.minutes(1), FULL);
        due("BAD ahead of FULL", x.minutes(201), BAD);
        FillAndGo y = passTo(new FillAndGo(), 14200);
        due("200 to the end", y.minutes(200), 14400);
    }

    // ---- 18 .. 22

    private static void numberOfABus() {
        by("2 its number (-1000000: it doesn't QUEUE)");
        FillAndGo x = oneBus(9, 2, 1, 0);
        due("it QUEUES", x.busTold(0, 2), 0);
        x.rest(0);
        due("it RESTS", x.busTold(0, 2), -1000000);
        x.queue(0, 0);
        due("it QUEUES again", x.busTold(0, 2), 1);
        x.minutes(1);
        due("it RUNS", x.busTold(0, 2), -1000000);
        x.hold(0, 1);
        due("HELD", x.busTold(0, 2), -1000000);
        x.wants(0, 0);
        pass(x, 10);
        due("at its AIM", x.busTold(0, 2), 0);
        pass(x, 1);
        due("it LOADS", x.busTold(0, 0), 2);
        due("it LOADS", x.busTold(0, 2), -1000000);
    }

    private static void latestKind() {
        by("11 the KIND of its latest run");
        FillAndGo x = oneBus(1, 5, 1, 0);
        due("none yet", x.busTold(0, 11), 0);
        pass(x, 1);
        due("HIRED", x.busTold(0, 11), 5);
        x.wants(0, 2);
        pass(x, 10);
        due("at its AIM", x.busTold(0, 0), 1);
        due("HIRED still", x.busTold(0, 11), 5);
        pass(x, 1);
        due("EMPTY", x.busTold(0, 11), 2);
    }

    private static void whoIsNext() {
        by("0 how many QUEUE, 1 who is next (-1), 2 who LOADS (-1)");
        for (int s = 0; s < 6; s++) {
            FillAndGo x = withBuses(12);
            due("none QUEUES", x.stageTold(s, 0), 0);
            due("none is next", x.stageTold(s, 1), -1);
            due("none LOADS", x.stageTold(s, 2), -1);
            for (int b = 11; b >= 0; b--) x.queue(b, s);
            due("all QUEUE", x.stageTold(s, 0), 12);
            due("who came first", x.stageTold(s, 1), 11);
            x.road(s, (s + 1) % 6, 9);
            x.minutes(1);
            due("one LOADS", x.stageTold(s, 2), 11);
            due("the others QUEUE", x.stageTold(s, 0), 11);
            due("who is next", x.stageTold(s, 1), 10);
            for (int b = 0; b < 11; b++) x.rest(b);
            due("none QUEUES", x.stageTold(s, 0), 0);
            due("none is next", x.stageTold(s, 1), -1);
            due("elsewhere none LOADS", x.stageTold((s + 1) % 6, 2), -1);
        }
    }

    private static void whereMostWaitToGo() {
        by("3 where most wait to go, by a ROAD (-1: there is none)");
        for (int s = 0; s < 6; s++) {
            FillAndGo x = new FillAndGo();
            due("no ROAD", x.stageTold(s, 3), -1);
            for (int to = 5; to >= 0; to--) {
                if (to == s) continue;
                x.road(s, to, 60);
                due("of like ones the least", x.stageTold(s, 3), to);
            }
            int far = s == 5 ? 4 : 5, near = s == 0 ? 1 : 0;
            x.people(s, far, 99);
            x.minutes(1);
            due("no whole one waits", x.stageTold(s, 3), near);
            x.minutes(1);
            due("one waits", x.stageTold(s, 3), far);
            x.road(s, far, 0);
            due("by a ROAD", x.stageTold(s, 3), near);
        }
    }

    private static void countOfAll() {
        by("0 MINUTE, 1 BUSES, 2 WALKED, 3 RIDDEN, 4 WAITED, 5 CUSTOMS, 6 bytes of THE TAPE, 7 BOOKS, 8 RAIN, 9 MEMBERS");
        FillAndGo x = withBuses(11);
        x.bus(2, 0, 0, 0);
        x.people(0, 1, 99);
        pass(x, 20);
        x.people(0, 1, 0);
        x.road(0, 1, 1);
        x.wants(11, 1);
        x.queue(11, 0);
        pass(x, 1);
        for (int c = 0; c < 5; c++) customOf(x, "go=1");
        feedText(x, "abc");
        for (int k = 0; k < 7; k++) x.book(k, 0, 1);
        x.rain(1);
        x.round(6, 1);
        int waited = 0;
        for (int minute = 1; minute <= 20; minute++) waited += minute * 99 / 100;
        int[] want = {21, 12, 1 + 1, 1, waited - 1 + 16, 5, 3, 7, 1, 6};
        for (int what = 0; what < 10; what++) due("count(" + what + ")", x.count(what), want[what]);
        due("what -1", x.count(-1), BAD);
        due("what 10", x.count(10), BAD);
    }
}
