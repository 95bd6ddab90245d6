/** The sentences of "Terms", 1 STAGES and 2 CUSTOMS, that name a boundary: each by itself. */
public final class TermsTest extends Testing {
    private static final String[] KEYS = {"go", "fare", "keep"};
    private static final String[] FIELDS = {"waited", "sold", "rain", "hour", "queue", "stage", "owner", "earned"};
    /** 135 bytes of four LINES, with a / behind. */
    private static final String LONG = "keep=9999?waited<9999?earned<9999/".repeat(4);

    public static void main(String[] args) {
        minuteAtFirstAndAtMost();
        hoursWrapAround();
        roadsBothWays();
        wayIsCutAndOneAtLeast();
        jamOfEachHour();
        rainAtFirst();
        fewestAndMostPeople();
        busAtFirst();
        twelveBuses();
        numbersOfEachStage();
        numbersGoOn();
        comingToQueue();
        needOfKinds();
        faresOfKinds();
        minutesAndFuelOfKinds();
        tapeOf160();
        sixCustoms();
        oneToEightLines();
        oneToFourDigits();
        upToThreeTests();
        wordsOfKeysAndFields();
        signsOfTests();
        nothingStandsBetween();
        endsTooEarly();
        lastLineThatHolds();
        linesOfItsOwn();
        withoutAny();
        fieldWaited();
        fieldSoldAndEarned();
        fieldRainAndHour();
        fieldQueue();
        fieldStageAndOwner();
        end();
    }

    // ---- 1 STAGES

    private static void minuteAtFirstAndAtMost() {
        by("MINUTE is 0 at first, 14400 at most");
        FillAndGo x = new FillAndGo();
        due("at first", x.count(0), 0);
        for (int k = 1; k <= 72; k++) due("minutes(200)", x.minutes(200), 200 * k);
        due("one more", x.minutes(1), FULL);
        due("the last MINUTE", x.count(0), 14400);
    }

    private static void hoursWrapAround() {
        by("hour: MINUTE % 1440 / 60");
        FillAndGo x = new FillAndGo();
        x.road(0, 1, 60);
        for (int h = 0; h < 24; h++) x.jam(h, h + 1);
        int[] minutes = {0, 1, 59, 60, 119, 120, 1379, 1380, 1439, 1440, 1499, 1500, 2879, 2880, 14339, 14340, 14399, 14400};
        int[] hours = {0, 0, 0, 1, 1, 2, 22, 23, 23, 0, 0, 1, 23, 0, 22, 23, 23, 0};
        for (int i = 0; i < minutes.length; i++) {
            passTo(x, minutes[i]);
            due("the WAY in MINUTE " + minutes[i], x.trip(0, 1), 6 * (hours[i] + 1));
        }
    }

    private static void roadsBothWays() {
        by("ROADS between two STAGES (both ways alike): 0 .. 60 minutes (0, as all are at first: there is none)");
        FillAndGo x = new FillAndGo();
        for (int a = 0; a < 6; a++) {
            due("no ROAD from " + a, x.stageTold(a, 3), -1);
            for (int b = 0; b < 6; b++) if (a != b) due("at first", x.trip(a, b), STATE);
        }
        due("road(5, 0, 60)", x.road(5, 0, 60), 0);
        due("one way", x.trip(5, 0), 60);
        due("the other way", x.trip(0, 5), 60);
        due("road(0, 5, 1)", x.road(0, 5, 1), 60);
        due("one way", x.trip(5, 0), 1);
        due("the other way", x.trip(0, 5), 1);
        due("road(5, 0, 0)", x.road(5, 0, 0), 1);
        due("there is none", x.trip(5, 0), STATE);
        due("nor the other way", x.trip(0, 5), STATE);
        due("none from 0", x.stageTold(0, 3), -1);
        due("none from 5", x.stageTold(5, 3), -1);
        due("road(0, 5, 0)", x.road(0, 5, 0), 0);
    }

    private static void wayIsCutAndOneAtLeast() {
        by("its ROAD times JAM of the hour by 10 (cut), 1 at least");
        int[][] ways = {{1, 1, 1}, {9, 1, 1}, {10, 1, 1}, {19, 1, 1}, {20, 1, 2}, {1, 9, 1}, {1, 10, 1}, {1, 19, 1},
            {1, 20, 2}, {9, 11, 9}, {10, 11, 11}, {3, 33, 9}, {59, 1, 5}, {60, 1, 6}, {1, 50, 5}, {60, 50, 300}};
        for (int[] w : ways) {
            FillAndGo x = oneBus(w[0], 2, 4, 9);
            x.jam(0, w[1]);
            due("a ROAD of " + w[0] + ", JAM " + w[1], x.trip(1, 0), w[2]);
            pass(x, 1);
            due("FUEL of a run on it", x.busTold(0, 7), 9 * w[2]);
            due("minutes LEFT on it", x.busTold(0, 5), w[2] - 1);
        }
    }

    private static void jamOfEachHour() {
        by("JAM of an hour: 1 .. 50 tenths (10 at first)");
        FillAndGo x = new FillAndGo();
        for (int h = 0; h < 24; h++) due("jam(" + h + ", 50)", x.jam(h, 50), 10);
        for (int h = 0; h < 24; h++) due("jam(" + h + ", 1)", x.jam(h, 1), 50);
        due("jam(0, 50)", x.jam(0, 50), 1);
        due("another hour's stays", x.jam(1, 1), 1);
    }

    private static void rainAtFirst() {
        by("RAIN (0, 1; 0 at first)");
        FillAndGo x = new FillAndGo();
        due("count(8)", x.count(8), 0);
        due("rain(1)", x.rain(1), 0);
        due("count(8)", x.count(8), 1);
        due("rain(1)", x.rain(1), 1);
        due("rain(0)", x.rain(0), 1);
        due("rain(0)", x.rain(0), 0);
    }

    private static void fewestAndMostPeople() {
        by("PEOPLE wait at a STAGE to go to another one (0 at first); so many tenths (0 .. 99; 0 at first)");
        FillAndGo x = new FillAndGo();
        for (int a = 0; a < 6; a++) {
            for (int b = 0; b < 6; b++) {
                if (a == b) continue;
                due("who waits at first", x.waiting(a, b), 0);
                due("how many come at first", x.people(a, b, 0), 0);
            }
        }
        x.people(0, 1, 1);
        x.people(5, 4, 99);
        pass(x, 99);
        due("a tenth of one in ten MINUTES, 99 MINUTES", x.waiting(0, 1), 0);
        pass(x, 1);
        due("100 MINUTES", x.waiting(0, 1), 1);
        due("0 tenths", x.waiting(1, 0), 0);
        FillAndGo y = new FillAndGo();
        y.people(5, 4, 99);
        pass(y, 1);
        due("99 tenths, a MINUTE", y.waiting(5, 4), 0);
        pass(y, 1);
        due("99 tenths, two", y.waiting(5, 4), 1);
        pass(y, 7);
        due("99 tenths, nine", y.waiting(5, 4), 8);
    }

    private static void busAtFirst() {
        by("STATE: 0 RESTS (at first, STAGE 0), .. (all 0 at first)");
        FillAndGo x = new FillAndGo();
        due("bus(40, 5, 9999, 9)", x.bus(40, 5, 9999, 9), 0);
        dueOfBus("at first", x, 0, 0, 0, -1000000, 0, 0, 0, 0, 0, 0, 0, 0, 0);
        due("what it WANTS", x.wants(0, 0), 0);
        pass(x, 9);
        forceText(x, 0, "go=7?waited=9");
        due("SINCE", x.law(0, 0), 7);
    }

    private static void twelveBuses() {
        by("BUSES are numbered from 0 on, 12 at most");
        FillAndGo x = new FillAndGo();
        for (int b = 0; b < 12; b++) {
            due("not yet", x.busTold(b, 0), -5);
            due("a BUS", x.bus(1, 0, 0, 0), b);
            due("how many", x.count(1), b + 1);
            due("its STATE", x.busTold(b, 0), 0);
        }
        due("a 13th", x.bus(1, 0, 0, 0), FULL);
        due("no 13th", x.busTold(12, 0), -5);
        due("how many", x.count(1), 12);
    }

    private static void numbersOfEachStage() {
        by("A STAGE gives numbers from 0 on");
        FillAndGo x = withBuses(12);
        for (int s = 0; s < 6; s++) {
            due("the first at " + s, x.queue(2 * s, s), 0);
            due("the second at " + s, x.queue(2 * s + 1, s), 1);
        }
    }

    private static void numbersGoOn() {
        by("who comes to QUEUE there gets the next one");
        FillAndGo x = withBuses(3);
        x.queue(0, 4);
        x.queue(1, 4);
        x.rest(1);
        due("none is given twice", x.queue(1, 4), 2);
        x.jump(1, 0);
        due("also behind a jump", x.queue(2, 4), 3);
        x.rest(0);
        x.rest(1);
        x.rest(2);
        due("also of an empty QUEUE", x.queue(0, 4), 4);
    }

    private static void comingToQueue() {
        by("who comes to QUEUE there gets the next one: SINCE now, SOLD, LEFT 0");
        FillAndGo x = crowd(3);
        x.road(0, 1, 2);
        x.bus(3, 0, 0, 0);
        x.bus(3, 0, 0, 0);
        x.queue(0, 0);
        x.queue(1, 1);
        pass(x, 1);
        due("it RUNS", x.busTold(0, 0), 3);
        due("SOLD", x.busTold(0, 4), 3);
        due("LEFT", x.busTold(0, 5), 1);
        pass(x, 1);
        dueOfBus("it came to its AIM", x, 0, 1, 1, 1, 1, 0, 0);
        forceText(x, 1, "go=7?waited=1/go=8?waited=4");
        due("SINCE is the MINUTE that went by", x.law(0, 0), 7);
        pass(x, 3);
        due("three MINUTES later", x.law(0, 0), 8);
    }

    private static void needOfKinds() {
        by("NEED: the number told, 1 .. 100 (else the bound); EMPTY 0; EARLY half of a RUN's (cut up)");
        int[] told = {0, 1, 2, 3, 4, 99, 100, 101, 102, 998, 999};
        int[] run = {1, 1, 2, 3, 4, 99, 100, 100, 100, 100, 100};
        int[] early = {1, 1, 1, 2, 2, 50, 50, 50, 50, 50, 50};
        FillAndGo x = new FillAndGo();
        for (int i = 0; i < told.length; i++) {
            int[] need = {run[i], run[i], 0, early[i], early[i], 0};
            for (int kind = 0; kind < 6; kind++) {
                due("KIND " + kind + " of " + told[i], x.kindTold(kind, 0, told[i]), need[kind]);
            }
        }
    }

    private static void faresOfKinds() {
        by("FARE told; SHORT six tenths (cut); EMPTY 0; EXTRA a fifth (cut) more; HIRED three times what is told");
        int[] told = {0, 1, 2, 4, 5, 9, 10, 998, 999};
        int[] six = {0, 0, 1, 2, 3, 5, 6, 598, 599};
        int[] more = {0, 1, 2, 4, 6, 10, 12, 1197, 1198};
        int[] hired = {0, 3, 6, 12, 15, 27, 30, 2994, 2997};
        FillAndGo x = new FillAndGo();
        for (int i = 0; i < told.length; i++) {
            int[] fare = {told[i], six[i], 0, told[i], more[i], hired[i]};
            for (int kind = 0; kind < 6; kind++) {
                due("KIND " + kind + " of " + told[i], x.kindTold(kind, 1, told[i]), fare[kind]);
            }
        }
    }

    private static void minutesAndFuelOfKinds() {
        by("MINUTES: the WAY; SHORT half (cut up); HIRED 10 more; FUEL: the BUS's; EXTRA 1 more");
        int[] told = {0, 1, 2, 3, 998, 999};
        int[] half = {0, 1, 1, 2, 499, 500};
        FillAndGo x = new FillAndGo();
        for (int i = 0; i < told.length; i++) {
            int v = told[i];
            int[] minutes = {v, half[i], v, v, v, v + 10};
            int[] fuel = {v, v, v, v, v + 1, v};
            for (int kind = 0; kind < 6; kind++) {
                due("MINUTES of KIND " + kind + " of " + v, x.kindTold(kind, 2, v), minutes[kind]);
                due("FUEL of KIND " + kind + " of " + v, x.kindTold(kind, 3, v), fuel[kind]);
            }
        }
    }

    // ---- 2 CUSTOMS

    private static void tapeOf160() {
        by("CUSTOMS are read from THE TAPE (160 bytes at most)");
        FillAndGo x = new FillAndGo();
        due("159 and one more", feedText(x, LONG + "fare=20?sold>1?hour<9999"), 160);
        due("one too many", x.feed('/', 1), FULL);
        due("a CUSTOM of 160 bytes", x.custom(), 0);
        due("empty then", x.count(6), 0);
        x.bus(9, 0, 0, 0);
        x.force(0, 0);
        due("its fourth LINE", x.why(0, 2), 3);
        due("its last LINE does not hold", x.why(0, 1), NONE);
        by("FAULT: how many there are, if it ends too early");
        due("160 bytes", customOf(x, LONG + "fare=200?sold>1111?hour<"), -260);
        by("FAULT: the place of the first byte with which none begins so");
        due("the last of 160", customOf(x, LONG + "fare=20?sold>1?hour<999x"), -259);
        due("no CUSTOM came", x.count(5), 1);
        due("THE TAPE is fed from its beginning", customOf(x, "go=5"), 1);
    }

    private static void sixCustoms() {
        by("CUSTOMS .., 6 at most, numbered from 0 on");
        FillAndGo x = new FillAndGo();
        x.bus(9, 0, 0, 0);
        for (int c = 0; c < 6; c++) {
            due("a CUSTOM", customOf(x, "go=" + c), c);
            due("how many", x.count(5), c + 1);
        }
        feedText(x, "go=6");
        due("a seventh", x.custom(), FULL);
        due("how many", x.count(5), 6);
        for (int c = 0; c < 6; c++) {
            x.force(0, c);
            due("each is as it was told", x.law(0, 0), c);
        }
    }

    private static void oneToEightLines() {
        by("1 to 8 LINES, with / between .. FAULT: also .. of the / ahead of a 9th LINE");
        due("no LINE", new FillAndGo().custom(), -100);
        StringBuilder text = new StringBuilder("go=1");
        for (int lines = 1; lines <= 8; lines++) {
            due(lines + " LINES", customOf(new FillAndGo(), text.toString()), 0);
            int end = text.length();
            due("a / behind " + lines, customOf(new FillAndGo(), text + "/"), lines < 8 ? -101 - end : -100 - end);
            due("two / behind " + lines, customOf(new FillAndGo(), text + "//"), lines < 8 ? -101 - end : -100 - end);
            text.append("/go=").append(lines + 1);
        }
        due("9 LINES", customOf(new FillAndGo(), text.toString()), -139);
        due("a / ahead", customOf(new FillAndGo(), "/go=1"), -100);
        FillAndGo x = new FillAndGo();
        x.bus(1, 0, 0, 0);
        forceText(x, 0, "go=1/go=2/go=3/go=4/go=5/go=6/go=7/go=8");
        due("by the eighth", x.why(0, 0), 7);
        due("its NUMBER", x.law(0, 0), 8);
    }

    private static void oneToFourDigits() {
        by("a NUMBER (1 to 4 digits)");
        String[] numbers = {"0", "9", "10", "99", "100", "999", "1000", "9999", "0000", "0009", "0100"};
        for (String number : numbers) {
            FillAndGo x = new FillAndGo();
            x.bus(1, 0, 0, 0);
            forceText(x, 0, "fare=" + number);
            due("fare=" + number, x.law(0, 1), Integer.parseInt(number));
            due("of a TEST", customOf(x, "fare=1?owner>" + number), 1);
        }
        due("no digit", customOf(new FillAndGo(), "fare="), -105);
        due("no digit ahead of /", customOf(new FillAndGo(), "fare=/go=1"), -105);
        due("no digit ahead of ?", customOf(new FillAndGo(), "fare=?sold=1"), -105);
        due("a fifth", customOf(new FillAndGo(), "fare=12345"), -109);
        due("a fifth 0", customOf(new FillAndGo(), "fare=00000"), -109);
        due("below 0", customOf(new FillAndGo(), "fare=-1"), -105);
        due("none of a TEST", customOf(new FillAndGo(), "go=1?sold="), -110);
        due("none of a TEST ahead of ?", customOf(new FillAndGo(), "go=1?sold=?"), -110);
        due("a fifth of a TEST", customOf(new FillAndGo(), "go=1?sold=12345"), -114);
        due("the sign ahead of 0", customOf(new FillAndGo(), "go=" + (char) ('0' - 1)), -103);
        due("the sign behind 9", customOf(new FillAndGo(), "go=" + (char) ('9' + 1)), -103);
        due("the sign ahead of 0, behind a digit", customOf(new FillAndGo(), "fare=1."), -106);
        due("the sign behind 9, behind a digit", customOf(new FillAndGo(), "fare=1:"), -106);
    }

    private static void upToThreeTests() {
        by("then up to 3 TESTS .. FAULT: also of a 4th TEST's ?");
        String text = "keep=1";
        for (int tests = 0; tests <= 3; tests++) {
            due(tests + " TESTS", customOf(new FillAndGo(), text), 0);
            due(tests + " in a second LINE", customOf(new FillAndGo(), "go=1/" + text), 0);
            int want = tests < 3 ? -101 - text.length() : -100 - text.length();
            due("a ? behind " + tests, customOf(new FillAndGo(), text + "?"), want);
            due("?? behind " + tests, customOf(new FillAndGo(), text + "??"), want);
            text += "?rain=0";
        }
        due("4 TESTS", customOf(new FillAndGo(), text), -127);
        due("a LINE may follow", customOf(new FillAndGo(), text.substring(0, 27) + "/go=1?rain=1"), 0);
    }

    private static void wordsOfKeysAndFields() {
        by("a KEY (go, fare, keep) .. a FIELD (waited sold rain hour queue stage owner earned)");
        for (String key : KEYS) wordAt("", key, "=1");
        for (String key : KEYS) wordAt("go=1/", key, "=1");
        for (String field : FIELDS) wordAt("go=1?", field, "<1");
        due("a FIELD is no KEY", customOf(new FillAndGo(), "sold=1"), -100);
        due("a KEY is no FIELD", customOf(new FillAndGo(), "go=1?keep=1"), -105);
        due("so is neither sold nor stage", customOf(new FillAndGo(), "go=1?stld=1"), -107);
        due("no KEY", customOf(new FillAndGo(), "=1"), -100);
        due("no KEY in a second LINE", customOf(new FillAndGo(), "go=1/=1"), -105);
        due("half a KEY", customOf(new FillAndGo(), "kee=1"), -103);
        for (char sign : new char[] {'<', '>', '='}) {
            due("no FIELD", customOf(new FillAndGo(), "go=1?" + sign + "1"), -105);
            due("half a FIELD", customOf(new FillAndGo(), "go=1?wait" + sign + "1"), -109);
        }
    }

    /** The whole word is fine; cut anywhere it ends too early, and with another byte there that one is the FAULT. */
    private static void wordAt(String ahead, String word, String behind) {
        due(word, customOf(new FillAndGo(), ahead + word + behind), 0);
        for (int cut = 0; cut <= word.length(); cut++) {
            String begun = ahead + word.substring(0, cut);
            String rest = cut < word.length() ? word.substring(cut + 1) : "";
            due("it ends: " + begun, customOf(new FillAndGo(), begun), -100 - begun.length());
            due("x behind: " + begun, customOf(new FillAndGo(), begun + "x" + rest + behind), -100 - begun.length());
            if (cut == word.length()) continue;
            String large = begun + Character.toUpperCase(word.charAt(cut)) + rest + behind;
            due("a large letter: " + large, customOf(new FillAndGo(), large), -100 - begun.length());
        }
        String doubled = ahead + word + word.charAt(word.length() - 1) + behind;
        due("too long: " + doubled, customOf(new FillAndGo(), doubled), -100 - ahead.length() - word.length());
    }

    private static void signsOfTests() {
        by("< or > or =");
        for (int sign = 0; sign < 256; sign++) {
            boolean fine = sign == '<' || sign == '>' || sign == '=';
            due("the sign " + sign, customOf(new FillAndGo(), "go=1?sold" + (char) sign + "1"), fine ? 0 : -109);
        }
        due("two signs", customOf(new FillAndGo(), "go=1?sold<=1"), -110);
        due("none", customOf(new FillAndGo(), "go=1?sold1"), -109);
        due("a KEY with <", customOf(new FillAndGo(), "go<1"), -102);
    }

    private static void nothingStandsBetween() {
        by("Nothing stands between. FAULT: the place of the first byte with which none begins so");
        String text = "go=12?sold<34?stage>5/fare=6?earned=789/keep=1";
        due("as it is", customOf(new FillAndGo(), text), 0);
        int[] bytes = {0, 9, 10, 32, 127, 128, 195, 255};
        for (int place = 0; place <= text.length(); place++) {
            for (int one : bytes) {
                String with = text.substring(0, place) + (char) one + text.substring(place);
                due("the byte " + one + " at " + place, customOf(new FillAndGo(), with), -100 - place);
            }
        }
    }

    private static void endsTooEarly() {
        by("FAULT: how many there are, if it ends too early");
        String text = "go=12?sold<34/fare=5";
        boolean[] whole = new boolean[21];
        for (int length : new int[] {4, 5, 12, 13, 20}) whole[length] = true;
        for (int length = 0; length <= 20; length++) {
            int got = customOf(new FillAndGo(), text.substring(0, length));
            due("the first " + length + " bytes", got, whole[length] ? 0 : -100 - length);
        }
    }

    private static void lastLineThatHolds() {
        by("the NUMBER of the last LINE with it all of whose TESTS hold");
        FillAndGo x = new FillAndGo();
        x.bus(9, 3, 0, 0);
        forceText(x, 0, "go=1/go=2/fare=3/go=4?owner=3/go=5?owner=4/keep=6");
        due("go", x.law(0, 0), 4);
        due("by its LINE", x.why(0, 0), 3);
        due("fare", x.law(0, 1), 3);
        due("keep", x.law(0, 2), 6);
        String[] tests = {"?owner=3?rain=0?sold=0", "?owner=2?rain=0?sold=0", "?owner=3?rain=1?sold=0",
            "?owner=3?rain=0?sold=1", "?owner=2?rain=1?sold=1"};
        for (int i = 0; i < tests.length; i++) {
            FillAndGo y = new FillAndGo();
            y.bus(9, 3, 0, 0);
            forceText(y, 0, "go=1/go=2" + tests[i]);
            due("with " + tests[i], y.why(0, 0), i == 0 ? 1 : 0);
        }
    }

    private static void linesOfItsOwn() {
        by("1 to 8 LINES: a shorter CUSTOM behind a longer one");
        FillAndGo x = new FillAndGo();
        x.bus(9, 3, 0, 0);
        customOf(x, "go=1/go=2/go=3/go=4?owner=3?rain=0/fare=5/keep=6/keep=7/fare=8");
        forceText(x, 0, "go=9?rain=1");
        due("no LINE of the longer one", x.why(0, 0), NONE);
        due("no fare", x.why(0, 1), NONE);
        due("no keep", x.why(0, 2), NONE);
        customOf(x, "go=1?rain=0?sold=0?owner=2/fare=1x");
        forceText(x, 0, "go=1/fare=2");
        due("no TEST of one with a FAULT", x.why(0, 0), 0);
        due("its second LINE", x.law(0, 1), 2);
        due("no keep", x.why(0, 2), NONE);
    }

    private static void withoutAny() {
        by("A STAGE has a CUSTOM, or none (at first) .. without any: go 100, fare 20, keep 30");
        int[] plain = {100, 20, 30};
        for (int key = 0; key < 3; key++) {
            FillAndGo x = new FillAndGo();
            x.bus(9, 0, 0, 0);
            due("without a CUSTOM, " + KEYS[key], x.law(0, key), plain[key]);
            due("by no LINE", x.why(0, key), NONE);
            forceText(x, 0, KEYS[(key + 1) % 3] + "=7/" + KEYS[(key + 2) % 3] + "=8");
            due("without a LINE of it", x.law(0, key), plain[key]);
            forceText(x, 0, KEYS[key] + "=7?rain=1");
            due("without one that holds", x.law(0, key), plain[key]);
            due("by no LINE", x.why(0, key), NONE);
            x.rain(1);
            due("with one", x.law(0, key), 7);
            x.queue(0, 1);
            due("by the CUSTOM of its STAGE, which has none", x.law(0, key), plain[key]);
        }
    }

    /** What a TEST sees: < and > leave out the value itself. */
    private static void fieldIs(FillAndGo x, int b, String field, int value) {
        String[] tests = {"<" + value, "<" + (value + 1), ">" + value, "=" + value, "=" + (value + 1),
            value > 0 ? ">" + (value - 1) : ">0"};
        boolean[] holds = {false, true, false, true, false, value > 0};
        int stage = x.busTold(b, 1);
        for (int i = 0; i < tests.length; i++) {
            forceText(x, stage, "go=7?" + field + tests[i]);
            due(field + tests[i], x.why(b, 0), holds[i] ? 0 : NONE);
        }
    }

    private static void fieldWaited() {
        by("waited: MINUTE less SINCE");
        FillAndGo q = passTo(withBuses(1), 7);
        q.queue(0, 3);
        fieldIs(q, 0, "waited", 0);
        FillAndGo r = passTo(withBuses(1), 7);
        r.queue(0, 3);
        fieldIs(passTo(r, 12), 0, "waited", 5);
        FillAndGo l = passTo(oneBus(9, 0, 4, 0), 4);
        fieldIs(l, 0, "waited", 4);
        FillAndGo n = passTo(withBuses(1), 300);
        fieldIs(n, 0, "waited", 300);
        FillAndGo far = passTo(withBuses(1), 9999);
        forceText(far, 0, "go=1?waited=9999/go=2?waited>9999");
        due("9999", far.law(0, 0), 1);
        pass(far, 1);
        due("beyond all NUMBERS", far.law(0, 0), 2);
        FillAndGo held = oneBus(60, 2, 4, 0);
        pass(held, 1);
        held.hold(0, 1);
        forceText(held, 0, "go=1?waited<0/go=2?waited=0/go=3?waited>0");
        due("HELD: SINCE is the next MINUTE", held.law(0, 0), 1);
        pass(held, 1);
        due("in that MINUTE", held.law(0, 0), 2);
    }

    private static void fieldSoldAndEarned() {
        by("sold: SOLD");
        FillAndGo x = crowd(3);
        x.road(0, 1, 5);
        x.bus(4, 0, 0, 0);
        x.queue(0, 0);
        fieldIs(x, 0, "sold", 0);
        FillAndGo y = crowd(3);
        y.road(0, 1, 5);
        y.bus(4, 0, 0, 0);
        y.queue(0, 0);
        pass(y, 1);
        fieldIs(y, 0, "sold", 3);
        by("earned: EARNED");
        FillAndGo z = oneBus(60, 5, 4, 0);
        fieldIs(z, 0, "earned", 0);
        FillAndGo h = oneBus(60, 5, 4, 0);
        pass(h, 1);
        fieldIs(h, 0, "earned", 60);
    }

    private static void fieldRainAndHour() {
        by("rain");
        fieldIs(withBuses(1), 0, "rain", 0);
        FillAndGo x = withBuses(1);
        x.rain(1);
        fieldIs(x, 0, "rain", 1);
        by("hour");
        int[][] hours = {{0, 0}, {59, 0}, {60, 1}, {1379, 22}, {1380, 23}, {1439, 23}, {1440, 0}, {2880, 0}};
        for (int[] h : hours) fieldIs(passTo(withBuses(1), h[0]), 0, "hour", h[1]);
    }

    private static void fieldQueue() {
        by("queue: how many BUSES QUEUE at its STAGE");
        FillAndGo none = withBuses(3);
        none.queue(1, 5);
        fieldIs(none, 0, "queue", 0);
        FillAndGo one = withBuses(3);
        one.queue(0, 2);
        fieldIs(one, 0, "queue", 1);
        FillAndGo all = withBuses(12);
        for (int b = 0; b < 12; b++) all.queue(b, 2);
        fieldIs(all, 11, "queue", 12);
        FillAndGo loads = withBuses(3);
        loads.road(2, 3, 9);
        for (int b = 0; b < 3; b++) loads.queue(b, 2);
        pass(loads, 1);
        fieldIs(loads, 0, "queue", 2);
        FillAndGo rests = withBuses(3);
        rests.queue(0, 0);
        rests.queue(1, 0);
        fieldIs(rests, 2, "queue", 2);
    }

    private static void fieldStageAndOwner() {
        by("stage");
        for (int s = 0; s < 6; s++) {
            FillAndGo x = withBuses(1);
            x.queue(0, s);
            fieldIs(x, 0, "stage", s);
        }
        FillAndGo runs = withBuses(1);
        runs.road(4, 1, 9);
        runs.wants(0, 2);
        runs.queue(0, 4);
        pass(runs, 3);
        fieldIs(runs, 0, "stage", 4);
        by("owner");
        for (int o = 0; o < 6; o++) {
            FillAndGo x = new FillAndGo();
            x.bus(1, o, 0, 0);
            fieldIs(x, 0, "owner", o);
        }
    }
}
