import java.util.ArrayList;
import java.util.Arrays;
import java.util.HashMap;
import java.util.List;
import java.util.Map;
import java.util.Random;
import java.util.regex.Matcher;
import java.util.regex.Pattern;

/** Random runs of calls, each answer compared with that of a second program, which is plain and slow. */
public final class ModelTest {
    private static final int RUNS = 400, CALLS = 512;

    public static void main(String[] args) {
        int wrong = 0, calls = 0;
        Map<String, Integer> answered = new HashMap<>();
        for (int run = 0; run < RUNS && wrong < 5; run++) {
            Driver driver = new Driver(new Random(7919L * run + 13));
            while (driver.asked < CALLS) {
                if (driver.step()) {
                    if (!driver.refused) answered.merge(driver.name, 1, Integer::sum);
                    continue;
                }
                wrong++;
                System.out.println("run " + run + ", call " + driver.asked + ": " + driver.last);
                break;
            }
            calls += driver.asked;
        }
        String[] names = {"road", "jam", "people", "rain", "bus", "queue", "rest", "jump", "hold", "wants", "feed",
            "custom", "force", "law", "why", "minutes", "busTold", "waiting", "stageTold", "kindTold", "count", "trip",
            "foretell", "beside", "plan", "planned", "gain", "fights", "part", "round", "stops", "turns", "saved",
            "book", "mend", "told", "image", "back", "sheet", "cell", "copy", "buses", "taken"};
        for (String name : names) {
            if (wrong == 0 && answered.getOrDefault(name, 0) < 50) {
                wrong++;
                System.out.println(name + " was hardly ever answered: " + answered.get(name));
            }
        }
        System.out.println(wrong == 0 ? calls + " calls are answered as by the model" : wrong + " runs go astray");
        if (wrong != 0) System.exit(1);
    }

    /** Makes up calls and asks both programs. */
    private static final class Driver {
        final Random random;
        final FillAndGo real = new FillAndGo();
        final Model model = new Model();
        final int pace;
        String name = "", last = "";
        boolean refused;
        int asked;

        Driver(Random random) {
            this.random = random;
            this.pace = 1 + random.nextInt(40);
        }

        /** Mostly least .. most, now and then just beside it or far away. */
        int pick(int least, int most) {
            int dice = random.nextInt(60);
            if (dice == 0) return least - 1;
            if (dice == 1) return most + 1;
            if (dice == 2 && random.nextInt(4) == 0) return random.nextInt();
            if (dice == 3) return most;
            if (dice == 4) return least;
            return least + random.nextInt(most - least + 1);
        }

        int bus() {
            return random.nextInt(40) == 0 ? pick(0, 11) : pick(0, Math.max(0, model.busCount() - 1));
        }

        int stage() {
            return random.nextInt(3) == 0 ? pick(0, 5) : pick(0, 2);
        }

        int other(int stage) {
            int two = stage();
            return two == stage && random.nextInt(20) != 0 ? (stage + 1) % 6 : two;
        }

        boolean same(String call, long got, long want) {
            name = call.substring(0, call.indexOf('('));
            refused = want < 0;
            asked++;
            last = call + " answered " + got + ", by the model " + want;
            return got == want;
        }

        boolean step() {
            int dice = random.nextInt(100);
            if (dice < 30) return town(random.nextInt(14));
            if (dice < 45) return customs(random.nextInt(6));
            if (dice < 60) return looking(random.nextInt(8));
            if (dice < 72) return ahead(random.nextInt(12));
            if (dice < 82) return savings(random.nextInt(9));
            if (dice < 90) return booked(random.nextInt(6));
            return host(random.nextInt(6));
        }

        boolean town(int which) {
            int a = stage(), b = other(a), c = bus(), v;
            switch (which) {
                case 0: v = random.nextInt(3) == 0 ? 0 : pick(0, random.nextBoolean() ? 5 : 60);
                    return same("road(" + a + ", " + b + ", " + v + ")", real.road(a, b, v), model.road(a, b, v));
                case 1: a = random.nextBoolean() ? pick(0, 23) : 0;
                    v = pick(1, 50);
                    return same("jam(" + a + ", " + v + ")", real.jam(a, v), model.jam(a, v));
                case 2: case 3: v = random.nextBoolean() ? 99 : pick(0, 99);
                    return same("people(" + a + ", " + b + ", " + v + ")", real.people(a, b, v), model.people(a, b, v));
                case 4: v = pick(0, 1);
                    return same("rain(" + v + ")", real.rain(v), model.rain(v));
                case 5: a = random.nextInt(3) == 0 ? pick(1, 40) : pick(1, 9);
                    b = pick(0, 5);
                    c = random.nextBoolean() ? pick(0, 9999) : pick(0, 30);
                    v = pick(0, 9);
                    return same("bus(" + a + ", " + b + ", " + c + ", " + v + ")", real.bus(a, b, c, v), model.bus(a, b, c, v));
                case 6: case 7: case 8:
                    return same("queue(" + c + ", " + a + ")", real.queue(c, a), model.queue(c, a));
                case 9: return same("rest(" + c + ")", real.rest(c), model.rest(c));
                case 10: v = pick(0, random.nextBoolean() ? 50 : 9999);
                    return same("jump(" + c + ", " + v + ")", real.jump(c, v), model.jump(c, v));
                case 11: case 12: v = pick(1, random.nextBoolean() ? 9 : 600);
                    return same("hold(" + c + ", " + v + ")", real.hold(c, v), model.hold(c, v));
                default: v = pick(0, 5);
                    return same("wants(" + c + ", " + v + ")", real.wants(c, v), model.wants(c, v));
            }
        }

        boolean customs(int which) {
            int a = stage(), c = bus(), key = pick(0, 2);
            switch (which) {
                case 0: return feedCustom();
                case 1: return same("custom()", real.custom(), model.custom());
                case 2: int k = random.nextInt(5) == 0 ? pick(-1, 5) : pick(-1, Math.max(0, model.customCount() - 1));
                    return same("force(" + a + ", " + k + ")", real.force(a, k), model.force(a, k));
                case 3: return same("law(" + c + ", " + key + ")", real.law(c, key), model.law(c, key));
                case 4: return same("why(" + c + ", " + key + ")", real.why(c, key), model.why(c, key));
                default: int n = random.nextInt(4) == 0 ? pick(1, 200) : pick(1, pace);
                    return same("minutes(" + n + ")", real.minutes(n), model.minutes(n));
            }
        }

        /** A whole text in one go, since a CUSTOM that is fine would else hardly ever come. */
        boolean feedCustom() {
            if (random.nextInt(10) == 0) {
                long w = random.nextLong();
                int n = pick(1, 8);
                return same("feed(" + w + ", " + n + ")", real.feed(w, n), model.feed(w, n));
            }
            String text = text();
            boolean fine = true;
            for (int i = 0; i < text.length() && fine && asked < CALLS; ) {
                int n = Math.min(1 + random.nextInt(8), text.length() - i);
                long w = random.nextLong();
                for (int k = 0; k < n; k++) w = w << 8 | text.charAt(i + k);
                fine = same("feed(" + w + ", " + n + ")", real.feed(w, n), model.feed(w, n));
                i += n;
            }
            if (fine && asked < CALLS && random.nextInt(8) != 0) fine = same("custom()", real.custom(), model.custom());
            return fine;
        }

        String text() {
            String[] keys = {"go", "fare", "keep"};
            String[] fields = {"waited", "sold", "rain", "hour", "queue", "stage", "owner", "earned"};
            int[] mosts = {20, 5, 1, 23, 3, 5, 5, 300};
            StringBuilder text = new StringBuilder();
            int lines = 1 + random.nextInt(random.nextInt(6) == 0 ? 10 : 5);
            for (int i = 0; i < lines; i++) {
                if (i > 0) text.append('/');
                text.append(keys[random.nextInt(3)]).append('=').append(random.nextInt(random.nextInt(9) == 0 ? 9999 : 110));
                int tests = random.nextInt(random.nextInt(30) == 0 ? 5 : 3);
                for (int t = 0; t < tests; t++) {
                    int f = random.nextInt(8);
                    text.append('?').append(fields[f]).append("<>=".charAt(random.nextInt(3)));
                    text.append(random.nextInt(mosts[f] + 1));
                }
            }
            if (random.nextInt(3) == 0 && text.length() > 0) text.setLength(random.nextInt(text.length()));
            if (random.nextInt(4) == 0 && text.length() > 0) {
                String signs = "gofarekepwitdsluhnq0123456789=/?<> ";
                text.setCharAt(random.nextInt(text.length()), signs.charAt(random.nextInt(signs.length())));
            }
            return text.toString();
        }

        boolean looking(int which) {
            int a = stage(), b = other(a), c = bus();
            int what;
            switch (which) {
                case 0: case 1: what = pick(0, 11);
                    return same("busTold(" + c + ", " + what + ")", real.busTold(c, what), model.busTold(c, what));
                case 2: return same("waiting(" + a + ", " + b + ")", real.waiting(a, b), model.waiting(a, b));
                case 3: case 4: what = pick(0, 3);
                    return same("stageTold(" + a + ", " + what + ")", real.stageTold(a, what), model.stageTold(a, what));
                case 5: a = pick(0, 5);
                    what = pick(0, 3);
                    b = pick(0, 999);
                    return same("kindTold(" + a + ", " + what + ", " + b + ")", real.kindTold(a, what, b), model.kindTold(a, what, b));
                default: what = pick(0, 9);
                    return same("count(" + what + ")", real.count(what), model.count(what));
            }
        }

        boolean ahead(int which) {
            int a = stage(), b = other(a), n;
            switch (which) {
                case 0: case 1: case 2: return same("trip(" + a + ", " + b + ")", real.trip(a, b), model.trip(a, b));
                case 3: case 4: case 5: n = pick(1, 240);
                    return same("foretell(" + a + ", " + n + ")", real.foretell(a, n), model.foretell(a, n));
                case 6: case 7: n = pick(1, 240);
                    a = pick(0, 1);
                    b = pick(0, 2);
                    return same("beside(" + n + ", " + a + ", " + b + ")", real.beside(n, a, b), model.beside(n, a, b));
                case 8: return placesTold();
                case 9: case 10: a = pick(0, 3);
                    b = pick(0, 5);
                    n = random.nextInt(4) == 0 ? pick(1, 120) : pick(1, 30);
                    return same("plan(" + a + ", " + b + ", " + n + ")", real.plan(a, b, n), model.plan(a, b, n));
                default: return same("planned()", real.planned(), model.planned());
            }
        }

        /** A SHEET that a PLAN can be made by. */
        boolean placesTold() {
            int s = random.nextInt(4), sort = random.nextInt(3), places = random.nextInt(6);
            boolean fine = same("sheet(" + s + ", " + sort + ", " + 2 * places + ")",
                real.sheet(s, sort, 2 * places), model.sheet(s, sort, 2 * places));
            for (int i = 0; i < 2 * places && fine && asked < CALLS; i++) {
                int v = i % 2 == 0 ? random.nextInt(Math.max(1, model.busCount())) : random.nextInt(3);
                fine = same("cell(" + s + ", " + i + ", " + v + ")", real.cell(s, i, v), model.cell(s, i, v));
            }
            return fine;
        }

        boolean savings(int which) {
            int a = pick(0, 5), b = pick(0, 3), v;
            switch (which) {
                case 0: case 1: v = pick(0, random.nextBoolean() ? 20 : 9999);
                    return same("gain(" + a + ", " + b + ", " + v + ")", real.gain(a, b, v), model.gain(a, b, v));
                case 2: v = pick(0, random.nextBoolean() ? 20 : 9999);
                    return same("fights(" + v + ")", real.fights(v), model.fights(v));
                case 3: case 4: a = random.nextInt(3) == 0 ? pick(1, 6) : pick(1, 4);
                    b = pick(1, 4);
                    int most = pick(1, 6);
                    v = pick(-2, Math.max(0, Math.min(5, a - 1)));
                    return same("part(" + a + ", " + b + ", " + most + ", " + v + ")",
                        real.part(a, b, most, v), model.part(a, b, most, v));
                case 5: a = pick(2, 6);
                    v = pick(1, 999);
                    return same("round(" + a + ", " + v + ")", real.round(a, v), model.round(a, v));
                case 6: if (random.nextInt(3) != 0) return same("turns()", real.turns(), model.turns());
                    return same("stops(" + a + ")", real.stops(a), model.stops(a));
                case 7: return same("turns()", real.turns(), model.turns());
                default: v = pick(0, 2);
                    return same("saved(" + a + ", " + v + ")", real.saved(a, v), model.saved(a, v));
            }
        }

        boolean booked(int which) {
            int c = bus(), v;
            switch (which) {
                case 0: int day = pick(0, 9);
                    v = pick(0, 1000000);
                    return same("book(" + c + ", " + day + ", " + v + ")", real.book(c, day, v), model.book(c, day, v));
                case 1: int k = random.nextInt(4) == 0 ? pick(0, 29) : random.nextInt(6);
                    v = pick(0, 1000000);
                    return same("mend(" + k + ", " + v + ")", real.mend(k, v), model.mend(k, v));
                case 2: case 3: int days = random.nextBoolean() ? pick(0, 99) : pick(0, 9);
                    v = pick(0, model.count(0));
                    return same("told(" + c + ", " + days + ", " + v + ")", real.told(c, days, v), model.told(c, days, v));
                case 4: if (random.nextInt(3) != 0) return town(random.nextInt(14));
                    return same("image()", real.image(), model.image());
                default: if (random.nextInt(3) != 0) return looking(random.nextInt(8));
                    return same("back()", real.back(), model.back());
            }
        }

        boolean host(int which) {
            int s = pick(0, 3), sort = random.nextBoolean() ? 0 : pick(0, 2), i = pick(0, 10), v, n;
            switch (which) {
                case 0: sort = random.nextBoolean() ? 0 : pick(-1, 2);
                    n = pick(0, random.nextBoolean() ? 12 : 40);
                    return same("sheet(" + s + ", " + sort + ", " + n + ")", real.sheet(s, sort, n), model.sheet(s, sort, n));
                case 1: case 2: v = random.nextInt(4) == 0 ? random.nextInt() : pick(0, 5);
                    return same("cell(" + s + ", " + i + ", " + v + ")", real.cell(s, i, v), model.cell(s, i, v));
                case 3: int other = pick(0, 3), j = pick(0, 10);
                    n = pick(0, 8);
                    return same("copy(" + s + ", " + i + ", " + other + ", " + j + ", " + n + ")",
                        real.copy(s, i, other, j, n), model.copy(s, i, other, j, n));
                case 4: i = pick(0, 6);
                    n = pick(0, random.nextBoolean() ? 2 : 10);
                    return same("buses(" + s + ", " + sort + ", " + i + ", " + n + ")",
                        real.buses(s, sort, i, n), model.buses(s, sort, i, n));
                default: int c = bus(), kind = pick(0, 5);
                    return same("taken(" + c + ", " + kind + ")", real.taken(c, kind), model.taken(c, kind));
            }
        }
    }

    /** A BUS. */
    private static final class Wheels implements Cloneable {
        int seats, owner, target, fuel, wants;
        int state, stage, number, aim, sold, left, since, kind, earned, spent, kept, owes, runs;

        Wheels twin() {
            try {
                return (Wheels) clone();
            } catch (CloneNotSupportedException e) {
                throw new IllegalStateException(e);
            }
        }
    }

    /** The document again: hundredths of people in one number, texts of customs, whole copies for what is beside. */
    private static final class Model {
        static final long NO = -4611686018427387904L;
        static final Pattern LINES;
        static final String[] FIELDS = {"waited", "sold", "rain", "hour", "queue", "stage", "owner", "earned"};

        static {
            String line = "(go|fare|keep)=[0-9]{1,4}(\\?(" + String.join("|", FIELDS) + ")[<>=][0-9]{1,4}){0,3}";
            LINES = Pattern.compile(line + "(/" + line + "){0,7}");
        }

        int[][] roads = new int[6][6], rates = new int[6][6], hundredths = new int[6][6];
        int[] jams = new int[24], forced = new int[6], numbers = new int[6];
        int minute, rain, walked, ridden, waited, plannedSet, cost, sum, turn;
        List<Wheels> wheels = new ArrayList<>();
        List<String> customs = new ArrayList<>();
        String tape = "";
        int[][] gains = new int[6][4];
        List<int[]> members = new ArrayList<>();
        List<int[]> books = new ArrayList<>();
        int[][] sheets = new int[4][];
        int[] sorts = new int[4];
        Model kept;

        Model() {
            Arrays.fill(jams, 10);
            Arrays.fill(forced, -1);
        }

        int busCount() {
            return wheels.size();
        }

        int customCount() {
            return customs.size();
        }

        /** What goes on by itself, apart from this one. */
        Model twin() {
            Model m = new Model();
            m.roads = roads;
            m.rates = rates;
            m.jams = jams;
            m.forced = forced;
            m.customs = customs;
            m.minute = minute;
            m.rain = rain;
            m.walked = walked;
            m.ridden = ridden;
            m.waited = waited;
            m.numbers = numbers.clone();
            for (int a = 0; a < 6; a++) m.hundredths[a] = hundredths[a].clone();
            for (Wheels w : wheels) m.wheels.add(w.twin());
            return m;
        }

        static boolean out(int v, int least, int most) {
            return v < least || v > most;
        }

        boolean noBus(int b) {
            return out(b, 0, wheels.size() - 1);
        }

        int road(int a, int b, int m) {
            if (out(a, 0, 5) || out(b, 0, 5)) return -1;
            if (a == b || out(m, 0, 60)) return -2;
            int was = roads[Math.min(a, b)][Math.max(a, b)];
            roads[a][b] = roads[b][a] = m;
            return was;
        }

        int jam(int h, int t) {
            if (out(h, 0, 23) || out(t, 1, 50)) return -2;
            int was = jams[h];
            jams[h] = t;
            return was;
        }

        int people(int a, int b, int t) {
            if (out(a, 0, 5) || out(b, 0, 5)) return -1;
            if (a == b || out(t, 0, 99)) return -2;
            int was = rates[a][b];
            rates[a][b] = t;
            return was;
        }

        int rain(int is) {
            if (out(is, 0, 1)) return -2;
            int was = rain;
            rain = is;
            return was;
        }

        int bus(int seats, int owner, int target, int fuel) {
            if (out(seats, 1, 40) || out(owner, 0, 5) || out(target, 0, 9999) || out(fuel, 0, 9)) return -2;
            if (wheels.size() == 12) return -4;
            Wheels w = new Wheels();
            w.seats = seats;
            w.owner = owner;
            w.target = target;
            w.fuel = fuel;
            wheels.add(w);
            return wheels.size() - 1;
        }

        int comes(Wheels w, int stage) {
            w.state = 1;
            w.stage = stage;
            w.number = numbers[stage]++;
            w.since = minute;
            w.sold = w.left = 0;
            return w.number;
        }

        int queue(int b, int stage) {
            if (noBus(b) || out(stage, 0, 5)) return -1;
            return wheels.get(b).state != 0 ? -3 : comes(wheels.get(b), stage);
        }

        int rest(int b) {
            if (noBus(b)) return -1;
            Wheels w = wheels.get(b);
            if (w.state != 1) return -3;
            w.state = 0;
            return w.stage;
        }

        int jump(int b, int c) {
            if (noBus(b)) return -1;
            if (out(c, 0, 9999)) return -2;
            Wheels w = wheels.get(b);
            if (w.state != 1) return -3;
            int least = wheels.stream().filter(o -> o.state == 1 && o.stage == w.stage).mapToInt(o -> o.number).min().getAsInt();
            if (least == w.number) return -6;
            w.spent += c;
            w.number = least - 1;
            return w.number;
        }

        int hold(int b, int m) {
            if (noBus(b)) return -1;
            if (out(m, 1, 600)) return -2;
            Wheels w = wheels.get(b);
            if (w.state != 3) return -3;
            w.state = 4;
            w.since = minute + m;
            return w.left;
        }

        int wants(int b, int kind) {
            if (noBus(b)) return -1;
            if (out(kind, 0, 5)) return -2;
            int was = wheels.get(b).wants;
            wheels.get(b).wants = kind;
            return was;
        }

        int feed(long w, int n) {
            if (out(n, 1, 8)) return -2;
            if (tape.length() + n > 160) return -4;
            for (int k = n - 1; k >= 0; k--) tape += (char) (w >>> 8 * k & 255);
            return tape.length();
        }

        int custom() {
            if (customs.size() == 6) return -4;
            String text = tape;
            tape = "";
            if (LINES.matcher(text).matches()) {
                customs.add(text);
                return customs.size() - 1;
            }
            int fine = 0;
            while (fine < text.length() && begins(text.substring(0, fine + 1))) fine++;
            return -100 - fine;
        }

        /** Whether some CUSTOM begins so. */
        static boolean begins(String text) {
            Matcher m = LINES.matcher(text);
            return m.matches() || m.hitEnd();
        }

        int force(int stage, int custom) {
            if (out(stage, 0, 5)) return -5;
            if (out(custom, -1, customs.size() - 1)) return -2;
            int was = forced[stage];
            forced[stage] = custom;
            return was;
        }

        int fact(Wheels w, String field) {
            switch (field) {
                case "waited": return minute - w.since;
                case "sold": return w.sold;
                case "rain": return rain;
                case "hour": return minute / 60 % 24;
                case "queue": return (int) wheels.stream().filter(o -> o.state == 1 && o.stage == w.stage).count();
                case "stage": return w.stage;
                case "owner": return w.owner;
                default: return w.earned;
            }
        }

        /** The LINE (or -1), and what it says. */
        int[] says(Wheels w, int key) {
            int[] answer = {-1, new int[] {100, 20, 30}[key]};
            if (forced[w.stage] < 0) return answer;
            String word = new String[] {"go", "fare", "keep"}[key];
            String[] lines = customs.get(forced[w.stage]).split("/");
            for (int i = 0; i < lines.length; i++) {
                String[] parts = lines[i].split("\\?");
                boolean holds = parts[0].startsWith(word + "=");
                for (int t = 1; t < parts.length; t++) {
                    String[] two = parts[t].split("[<>=]");
                    int side = Integer.signum(Integer.compare(fact(w, two[0]), Integer.parseInt(two[1])));
                    char sign = parts[t].charAt(two[0].length());
                    holds &= side == (sign == '<' ? -1 : sign == '>' ? 1 : 0);
                }
                if (holds) answer = new int[] {i, Integer.parseInt(parts[0].substring(word.length() + 1))};
            }
            return answer;
        }

        int law(int b, int key) {
            return noBus(b) ? -1 : out(key, 0, 2) ? -2 : says(wheels.get(b), key)[1];
        }

        int why(int b, int key) {
            return noBus(b) ? -5 : out(key, 0, 2) ? -2 : says(wheels.get(b), key)[0];
        }

        int minutes(int n) {
            if (out(n, 1, 200)) return -2;
            if (minute + n > 14400) return -4;
            for (int i = 0; i < n; i++) goBy();
            return minute;
        }

        int way(int a, int b) {
            return Math.max(1, roads[a][b] * jams[minute % 1440 / 60] / 10);
        }

        static int ofKind(int kind, int what, int v) {
            if (what == 0) {
                int need = v < 1 ? 1 : v > 100 ? 100 : v;
                return kind == 2 || kind == 5 ? 0 : kind >= 3 ? need - need / 2 : need;
            }
            if (what == 1) {
                int[] fares = {v, v * 6 / 10, 0, v, v + v / 5, 3 * v};
                return fares[kind];
            }
            if (what == 2) return kind == 1 ? v - v / 2 : kind == 5 ? v + 10 : v;
            return kind == 4 ? v + 1 : v;
        }

        int busiest(int stage) {
            int best = -1;
            for (int to = 5; to >= 0; to--) {
                if (roads[stage][to] == 0) continue;
                if (best < 0 || hundredths[stage][to] / 100 >= hundredths[stage][best] / 100) best = to;
            }
            return best;
        }

        int next(int stage) {
            int best = -1;
            for (int b = 0; b < wheels.size(); b++) {
                Wheels w = wheels.get(b);
                if (w.state == 1 && w.stage == stage && (best < 0 || w.number < wheels.get(best).number)) best = b;
            }
            return best;
        }

        int loads(int stage) {
            for (int b = 0; b < wheels.size(); b++) {
                if (wheels.get(b).state == 2 && wheels.get(b).stage == stage) return b;
            }
            return -1;
        }

        void goBy() {
            for (int a = 0; a < 6; a++) {
                for (int b = 0; b < 6; b++) {
                    hundredths[a][b] += rates[a][b];
                    if (minute % 10 != 9) continue;
                    int off = hundredths[a][b] / 100 * (rain == 1 ? 2 : 10) / 100;
                    hundredths[a][b] -= 100 * off;
                    walked += off;
                }
            }
            for (int s = 0; s < 6; s++) atStage(s);
            for (Wheels w : wheels) drive(w);
            for (int[] row : hundredths) for (int h : row) waited += h / 100;
            if ((minute + 1) % 1440 == 0) {
                for (Wheels w : wheels) evening(w);
            }
            minute++;
        }

        void atStage(int s) {
            if (loads(s) < 0 && next(s) >= 0 && busiest(s) >= 0) {
                Wheels w = wheels.get(next(s));
                w.state = 2;
                w.since = minute;
                w.aim = busiest(s);
                w.kind = w.wants;
            }
            if (loads(s) < 0) return;
            Wheels w = wheels.get(loads(s));
            for (int i = 0; i < 5 && w.kind != 2 && w.kind != 5; i++) {
                if (hundredths[s][w.aim] < 100 || w.sold == w.seats) break;
                hundredths[s][w.aim] -= 100;
                w.sold++;
            }
            if (100 * w.sold < ofKind(w.kind, 0, says(w, 0)[1]) * w.seats) return;
            w.earned += ofKind(w.kind, 1, says(w, 1)[1]) * (w.kind == 5 ? 1 : w.sold);
            w.state = 3;
            w.left = ofKind(w.kind, 2, way(s, w.aim));
            w.spent += w.left * ofKind(w.kind, 3, w.fuel);
            w.runs++;
        }

        void drive(Wheels w) {
            if (w.state == 4 && minute == w.since) {
                w.state = 3;
                return;
            }
            if (w.state != 3) return;
            w.left--;
            if (w.left > 0) return;
            int off = w.kind == 1 ? w.sold / 2 : 0;
            walked += off;
            ridden += w.sold - off;
            comes(w, w.kind == 1 ? w.stage : w.aim);
        }

        void evening(Wheels w) {
            long over = w.earned - w.spent - w.target;
            long share = Math.min(100, says(w, 2)[1]);
            if (over < 0) {
                w.owes += -over;
            } else if (over <= w.owes) {
                w.owes -= over;
            } else {
                w.kept += (over - w.owes) * share / 100;
                w.owes = 0;
            }
            w.earned = w.spent = 0;
        }

        int busTold(int b, int what) {
            if (noBus(b)) return -5;
            Wheels w = wheels.get(b);
            int[] all = {w.state, w.stage, w.state == 1 ? w.number : -1000000, w.aim, w.sold, w.left, w.earned,
                w.spent, w.kept, w.owes, w.runs, w.kind};
            return out(what, 0, 11) ? -7 : all[what];
        }

        int waiting(int a, int b) {
            return out(a, 0, 5) || out(b, 0, 5) ? -1 : a == b ? -2 : hundredths[a][b] / 100;
        }

        int stageTold(int s, int what) {
            if (out(s, 0, 5)) return -5;
            int many = (int) wheels.stream().filter(w -> w.state == 1 && w.stage == s).count();
            int[] all = {many, next(s), loads(s), busiest(s)};
            return out(what, 0, 3) ? -7 : all[what];
        }

        int kindTold(int kind, int what, int v) {
            return out(kind, 0, 5) || out(what, 0, 3) || out(v, 0, 999) ? -2 : ofKind(kind, what, v);
        }

        int count(int what) {
            int[] all = {minute, wheels.size(), walked, ridden, waited, customs.size(), tape.length(), books.size(),
                rain, members.size()};
            return out(what, 0, 9) ? -2 : all[what];
        }

        int trip(int a, int b) {
            if (out(a, 0, 5) || out(b, 0, 5)) return -1;
            if (a == b) return -2;
            int least = walkOn(a, b, 1 << a);
            return least == Integer.MAX_VALUE ? -3 : least;
        }

        /** All ways on that come to no STAGE twice. */
        int walkOn(int a, int b, int seen) {
            int least = Integer.MAX_VALUE;
            for (int to = 0; to < 6; to++) {
                if (roads[a][to] == 0 || (seen >> to & 1) == 1) continue;
                int more = to == b ? -5 : walkOn(to, b, seen | 1 << to);
                if (more != Integer.MAX_VALUE) least = Math.min(least, way(a, to) + 5 + more);
            }
            return least;
        }

        int foretell(int stage, int n) {
            if (out(stage, 0, 5)) return -1;
            if (out(n, 1, 240)) return -2;
            int b = loads(stage);
            if (b < 0) return -3;
            Model m = twin();
            for (int i = 1; i <= n; i++) {
                m.goBy();
                if (m.wheels.get(b).runs > wheels.get(b).runs) return i;
            }
            return -6;
        }

        long beside(int n, int is, int what) {
            if (out(n, 1, 240) || out(is, 0, 1) || out(what, 0, 2) || minute + n > 14400) return NO;
            Model m = twin();
            m.rain = is;
            for (int i = 0; i < n; i++) m.goBy();
            int[] come = {m.waited - waited, m.ridden - ridden, m.walked - walked};
            return come[what];
        }

        long plan(int s, int most, int n) {
            if (out(s, 0, 3) || sheets[s] == null || out(most, 0, 5) || out(n, 1, 120) || minute + n > 14400) return NO;
            int[] row = sheets[s];
            if (row.length % 2 == 1 || row.length > 10) return NO;
            for (int i = 0; i < row.length; i += 2) if (noBus(row[i]) || out(row[i + 1], 0, 5)) return NO;
            long best = Long.MAX_VALUE;
            for (int set = (1 << row.length / 2) - 1; set >= 0; set--) {
                Model m = twin();
                boolean fine = Integer.bitCount(set) <= most;
                for (int i = 0; fine && i < row.length / 2; i++) {
                    if ((set & 1 << i) != 0) fine = m.queue(row[2 * i], row[2 * i + 1]) != -3;
                }
                if (!fine) continue;
                for (int i = 0; i < n; i++) m.goBy();
                if (m.waited - waited <= best) {
                    best = m.waited - waited;
                    plannedSet = set;
                }
            }
            return best;
        }

        int planned() {
            return plannedSet;
        }

        int gain(int r, int s, int v) {
            if (out(r, 0, 5) || out(s, 0, 3)) return -1;
            if (out(v, 0, 9999)) return -2;
            int was = gains[r][s];
            gains[r][s] = v;
            return was;
        }

        int fights(int c) {
            if (out(c, 0, 9999)) return -2;
            int was = cost;
            cost = c;
            return was;
        }

        int part(int routes, int sides, int most, int i) {
            if (out(routes, 1, 6) || out(sides, 1, 4) || out(most, 1, 6)) return -2;
            if (out(i, -2, routes - 1)) return -5;
            List<int[]> quiet = new ArrayList<>();
            partOn(new int[routes], 0, sides, most, quiet);
            if (i == -2) return quiet.size();
            int[] best = null;
            for (int[] one : quiet) if (best == null || together(one) > together(best)) best = one;
            return best == null ? -3 : i == -1 ? together(best) : best[i];
        }

        void partOn(int[] parted, int route, int sides, int most, List<int[]> quiet) {
            if (route == parted.length) {
                quiet.add(parted.clone());
                return;
            }
            for (int s = 0; s < sides; s++) {
                int has = 0;
                for (int r = 0; r < route; r++) if (parted[r] == s) has++;
                boolean fine = has < most;
                for (int t = 0; t < sides; t++) if (t != s && gains[route][t] - cost > gains[route][s]) fine = false;
                parted[route] = s;
                if (fine) partOn(parted, route + 1, sides, most, quiet);
            }
        }

        int together(int[] parted) {
            int all = 0;
            for (int r = 0; r < parted.length; r++) all += gains[r][parted[r]];
            return all;
        }

        int round(int many, int each) {
            if (out(many, 2, 6) || out(each, 1, 999)) return -2;
            if (!members.isEmpty()) return -3;
            for (int m = 0; m < many; m++) members.add(new int[3]);
            sum = each;
            return many;
        }

        int stops(int m) {
            if (out(m, 0, members.size() - 1)) return -1;
            int[] one = members.get(m);
            if (one[2] == 1) return -3;
            one[2] = 1;
            return one[0] - one[1];
        }

        int turns() {
            if (members.isEmpty()) return -3;
            if (members.stream().allMatch(one -> one[2] == 1)) return -1;
            int all = 0;
            for (int[] one : members) {
                if (one[2] == 1) continue;
                one[0] += sum;
                all += sum;
            }
            while (members.get(turn)[2] == 1) turn = (turn + 1) % members.size();
            int who = turn;
            members.get(who)[1] += all;
            turn = (turn + 1) % members.size();
            return who;
        }

        int saved(int m, int what) {
            return out(m, 0, members.size() - 1) ? -5 : out(what, 0, 2) ? -2 : members.get(m)[what];
        }

        int book(int b, int day, int v) {
            if (noBus(b)) return -1;
            if (out(day, 0, 9) || out(v, 0, 1000000)) return -2;
            if (books.size() == 30) return -4;
            books.add(new int[] {b, day, v, minute, 0, Integer.MAX_VALUE});
            return books.size() - 1;
        }

        int mend(int k, int v) {
            if (out(k, 0, books.size() - 1)) return -1;
            if (out(v, 0, 1000000)) return -2;
            int[] one = books.get(k);
            if (one[5] != Integer.MAX_VALUE) return -3;
            one[4] = v;
            one[5] = minute;
            return one[2];
        }

        long told(int b, int days, int known) {
            if (noBus(b) || out(days, 0, 99) || days / 10 > days % 10 || out(known, 0, minute)) return NO;
            return books.stream().filter(one -> one[0] == b && one[1] >= days / 10 && one[1] <= days % 10)
                .filter(one -> one[3] <= known).mapToLong(one -> one[5] <= known ? one[4] : one[2]).sum();
        }

        int image() {
            kept = twin();
            return minute;
        }

        int back() {
            if (kept == null) return -3;
            Model m = kept.twin();
            minute = m.minute;
            rain = m.rain;
            walked = m.walked;
            ridden = m.ridden;
            waited = m.waited;
            numbers = m.numbers;
            hundredths = m.hundredths;
            for (int b = 0; b < wheels.size(); b++) {
                Wheels then = b < m.wheels.size() ? m.wheels.get(b) : new Wheels(), w = wheels.get(b);
                then.seats = w.seats;
                then.owner = w.owner;
                then.target = w.target;
                then.fuel = w.fuel;
                then.wants = w.wants;
                wheels.set(b, then);
            }
            return minute;
        }

        int sheet(int s, int sort, int n) {
            if (out(s, 0, 3) || out(sort, -1, 2)) return -2;
            if (sort >= 0 && n > 40) return -2;
            if (sort >= 0 && n < 0) return -14;
            sheets[s] = sort < 0 ? null : new int[n];
            sorts[s] = sort;
            return 1;
        }

        int cell(int s, int i, int v) {
            if (out(s, 0, 3)) return -2;
            if (sheets[s] == null) return -11;
            if (out(i, 0, sheets[s].length - 1)) return -12;
            int off = sorts[s] == 0 ? 24 : sorts[s] == 1 ? 16 : 0;
            sheets[s][i] = v << off >> off;
            return 1;
        }

        int copy(int s, int i, int other, int j, int n) {
            if (out(s, 0, 3) || out(other, 0, 3)) return -2;
            if (sheets[s] == null || sheets[other] == null) return -11;
            if (sorts[s] != sorts[other]) return -13;
            try {
                System.arraycopy(sheets[s], i, sheets[other], j, n);
            } catch (IndexOutOfBoundsException e) {
                return -12;
            }
            return n;
        }

        int buses(int s, int sort, int from, int n) {
            if (out(s, 0, 3) || out(sort, 0, 2) || out(n, 0, 10)) return -2;
            if (sheets[s] == null) return -11;
            if (sorts[s] != sort) return -13;
            int came = 0;
            int[] row = sheets[s];
            try {
                for (int k = from; k < from + 4 * n; k += 4) {
                    if (bus(row[k], row[k + 1], row[k + 2], row[k + 3]) >= 0) came++;
                }
            } catch (IndexOutOfBoundsException e) {
                return -12;
            }
            return n > 0 && from > 40 ? -12 : came;
        }

        int taken(int b, int kind) {
            if (out(kind, 0, 5)) return -2;
            if (noBus(b)) return -11;
            Wheels w = wheels.get(b);
            int[] above = {-1, 0, 0, 0, 3, 2};
            for (int k = w.kind; k >= 0 && w.state >= 2; k = above[k]) if (k == kind) return w.kind;
            return -13;
        }
    }
}
