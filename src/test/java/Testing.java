/** What the tests share: how answers are counted, and small towns to begin from. */
class Testing {
    static final int NONE = -1, BAD = -2, STATE = -3, FULL = -4;
    static final long NO = -4611686018427387904L;
    private static int wrong = 0;
    private static int looked = 0;
    private static String sentence = "";

    /** The document's words by which the next answers are due. */
    static void by(String words) {
        sentence = words;
    }

    static void due(String what, long got, long want) {
        looked++;
        if (got == want) return;
        wrong++;
        System.out.println(sentence + ": " + what + " answered " + got + ", due is " + want);
    }

    static void due(int promise, String what, long got, long want) {
        by("promise " + promise);
        due(what, got, want);
    }

    /** The answers of a BUS, from busTold(b, 0) on. */
    static void dueOfBus(String what, FillAndGo x, int b, int... want) {
        for (int i = 0; i < want.length; i++) due(what + ": busTold(" + b + ", " + i + ")", x.busTold(b, i), want[i]);
    }

    static void end() {
        System.out.println(wrong == 0 ? looked + " answers are as due" : wrong + " answers are not as due");
        if (wrong != 0) System.exit(1);
    }

    // ---- THE TAPE, MINUTES, SHEETS

    /** Feeds a text, eight bytes at a time, so that few calls are used. */
    static int feedText(FillAndGo x, String text) {
        int have = x.count(6);
        for (int i = 0; i < text.length(); i += 8) {
            int n = Math.min(8, text.length() - i);
            long w = 0;
            for (int k = 0; k < n; k++) w = w << 8 | text.charAt(i + k);
            have = x.feed(w, n);
        }
        return have;
    }

    static int customOf(FillAndGo x, String text) {
        feedText(x, text);
        return x.custom();
    }

    /** A CUSTOM that comes to be, and that of a STAGE. */
    static void forceText(FillAndGo x, int stage, String text) {
        x.force(stage, customOf(x, text));
    }

    static void pass(FillAndGo x, int n) {
        for (int left = n; left > 0; left -= 200) x.minutes(Math.min(left, 200));
    }

    /** Until it is that MINUTE. */
    static FillAndGo passTo(FillAndGo x, int minute) {
        pass(x, minute - x.count(0));
        return x;
    }

    static FillAndGo sheetOf(FillAndGo x, int s, int sort, int... cells) {
        x.sheet(s, sort, cells.length);
        for (int i = 0; i < cells.length; i++) x.cell(s, i, cells[i]);
        return x;
    }

    // ---- towns

    /** STAGES 0 and 1 with a ROAD of so many minutes, and one BUS that QUEUES at 0 and WANTS a KIND. */
    static FillAndGo oneBus(int road, int kind, int seats, int fuel) {
        FillAndGo x = new FillAndGo();
        x.road(0, 1, road);
        x.bus(seats, 0, 0, fuel);
        x.wants(0, kind);
        x.queue(0, 0);
        return x;
    }

    static FillAndGo withBuses(int many) {
        FillAndGo x = new FillAndGo();
        for (int b = 0; b < many; b++) x.bus(4, 0, 0, 0);
        return x;
    }

    /** So many (49 at most: of so few none WALKS in RAIN) wait to go from 0 to 1, MINUTE being twice as many. */
    static FillAndGo crowd(int many) {
        FillAndGo x = new FillAndGo();
        x.rain(1);
        x.people(0, 1, 50);
        pass(x, 2 * many);
        x.people(0, 1, 0);
        x.rain(0);
        return x;
    }
}
