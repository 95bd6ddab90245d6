import java.lang.reflect.InvocationTargetException;
import java.lang.reflect.Method;
import java.util.ArrayList;
import java.util.HashMap;
import java.util.IdentityHashMap;
import java.util.List;
import java.util.Map;
import java.util.StringJoiner;

/**
 * All that an object shows. Each look is at an object of its own, made anew, since some looks change it and since
 * nothing is promised of an object beyond 512 calls.
 */
final class Looks {
    interface Town {
        FillAndGo made();
    }

    private static final int LOOKS = 9;
    private static final Map<String, Method> CALLS = new HashMap<>();
    private static final Map<Town, List<List<String>>> PLAIN = new IdentityHashMap<>();

    static {
        for (Method m : FillAndGo.class.getDeclaredMethods()) CALLS.put(m.getName(), m);
    }

    private Looks() {
    }

    /** The answer of a call that is told by its name and its numbers. */
    static long ask(FillAndGo x, String name, long... numbers) {
        Method m = CALLS.get(name);
        Object[] told = new Object[numbers.length];
        for (int i = 0; i < told.length; i++) {
            boolean isLong = m.getParameterTypes()[i] == long.class;
            told[i] = isLong ? (Object) numbers[i] : (Object) (int) numbers[i];
        }
        try {
            return ((Number) m.invoke(x, told)).longValue();
        } catch (IllegalAccessException | InvocationTargetException e) {
            throw new IllegalStateException(written(name, numbers), e);
        }
    }

    static String written(String name, long... numbers) {
        StringJoiner text = new StringJoiner(", ", name + "(", ")");
        for (long number : numbers) text.add(Long.toString(number));
        return text.toString();
    }

    /** What a call has changed of a town, as the first look that differs; empty if nothing. */
    static String changedBy(Town town, String name, long... numbers) {
        return between(town, () -> {
            FillAndGo x = town.made();
            ask(x, name, numbers);
            return x;
        });
    }

    /** The first look by which a town is unlike another one; empty if there is none. */
    static String between(Town town, Town other) {
        List<List<String>> plain = PLAIN.computeIfAbsent(town, Looks::all);
        for (int look = 0; look < LOOKS; look++) {
            List<String> seen = look(other.made(), look);
            for (int i = 0; i < seen.size(); i++) {
                if (!seen.get(i).equals(plain.get(look).get(i))) return seen.get(i) + ", not " + plain.get(look).get(i);
            }
        }
        return "";
    }

    private static List<List<String>> all(Town town) {
        List<List<String>> all = new ArrayList<>();
        for (int look = 0; look < LOOKS; look++) all.add(look(town.made(), look));
        return all;
    }

    private static List<String> look(FillAndGo x, int look) {
        List<String> seen = new ArrayList<>();
        switch (look) {
            case 0: atBuses(x, seen); break;
            case 1: atStages(x, seen); break;
            case 2: ahead(x, seen); break;
            case 3: atWhatWasTold(x, seen); break;
            case 4: atSavingsAndBooks(x, seen); break;
            case 5: atSheets(x, seen); break;
            case 6: atNumbersAndWaits(x, seen); break;
            case 7: later(x, seen); break;
            default: withAllOnTheWay(x, seen); break;
        }
        return seen;
    }

    private static void see(FillAndGo x, List<String> seen, String name, long... numbers) {
        seen.add(written(name, numbers) + " = " + ask(x, name, numbers));
    }

    private static void atBuses(FillAndGo x, List<String> seen) {
        for (int b = 0; b < 13; b++) {
            for (int what = 0; what < 12; what++) see(x, seen, "busTold", b, what);
            see(x, seen, "taken", b, 0);
        }
    }

    private static void atStages(FillAndGo x, List<String> seen) {
        for (int what = 0; what < 10; what++) see(x, seen, "count", what);
        for (int a = 0; a < 6; a++) {
            for (int what = 0; what < 4; what++) see(x, seen, "stageTold", a, what);
            for (int b = 0; b < 6; b++) see(x, seen, "waiting", a, b);
        }
        for (int b = 0; b < 12; b++) {
            for (int key = 0; key < 3; key++) {
                see(x, seen, "law", b, key);
                see(x, seen, "why", b, key);
            }
        }
    }

    private static void ahead(FillAndGo x, List<String> seen) {
        see(x, seen, "planned");
        for (int a = 0; a < 6; a++) {
            for (int b = 0; b < 6; b++) see(x, seen, "trip", a, b);
            see(x, seen, "foretell", a, 120);
            see(x, seen, "beside", 30, a / 3, a % 3);
        }
        for (int i = -2; i < 4; i++) see(x, seen, "part", 4, 3, 2, i);
        for (int s = 0; s < 4; s++) {
            see(x, seen, "plan", s, 5, 9);
            see(x, seen, "planned");
        }
    }

    private static void atWhatWasTold(FillAndGo x, List<String> seen) {
        for (int a = 0; a < 6; a++) {
            for (int b = 0; b < 6; b++) {
                if (a < b) see(x, seen, "road", a, b, 0);
                see(x, seen, "people", a, b, 0);
            }
            see(x, seen, "force", a, -1);
            for (int side = 0; side < 4; side++) see(x, seen, "gain", a, side, 0);
        }
        for (int hour = 0; hour < 24; hour++) see(x, seen, "jam", hour, 10);
        for (int b = 0; b < 12; b++) see(x, seen, "wants", b, 0);
        see(x, seen, "rain", 0);
        see(x, seen, "fights", 0);
        see(x, seen, "custom");
    }

    private static void atSavingsAndBooks(FillAndGo x, List<String> seen) {
        for (int b = 0; b < 12; b++) see(x, seen, "told", b, 9, x.count(0));
        for (int turn = 0; turn < 3; turn++) see(x, seen, "turns");
        for (int m = 0; m < 6; m++) {
            for (int what = 0; what < 3; what++) see(x, seen, "saved", m, what);
            see(x, seen, "stops", m);
        }
        for (int k = 0; k < 30; k++) see(x, seen, "mend", k, k);
        see(x, seen, "back");
        for (int b = 0; b < 12; b++) {
            for (int what = 0; what < 12; what++) see(x, seen, "busTold", b, what);
        }
        for (int what = 0; what < 10; what++) see(x, seen, "count", what);
    }

    private static void atSheets(FillAndGo x, List<String> seen) {
        for (int s = 0; s < 4; s++) {
            for (int sort = 0; sort < 3; sort++) see(x, seen, "buses", s, sort, 0, 10);
        }
        for (int k = 0; k < 8; k++) see(x, seen, "minutes", 200);
        for (int b = 0; b < 12; b++) see(x, seen, "busTold", b, 9);
        for (int s = 0; s < 4; s++) {
            for (int i = 0; i <= 40; i++) see(x, seen, "cell", s, i, 1);
        }
    }

    /** The numbers that STAGES give, and SINCE, as far as TESTS of waited show it. */
    private static void atNumbersAndWaits(FillAndGo x, List<String> seen) {
        x.custom();
        int waits = Testing.customOf(x, "go=0?waited<0/go=1?waited=0/go=2?waited=1/go=3?waited=2/go=4?waited=3/go=5?waited=4"
            + "/go=6?waited=5/go=7?waited=6");
        for (int s = 0; s < 6; s++) x.force(s, waits);
        for (int b = 0; b < 12; b++) see(x, seen, "law", b, 0);
        for (int b = 0; b < 12; b++) {
            for (int s = 0; s < 6; s++) {
                see(x, seen, "queue", b, s);
                see(x, seen, "rest", b);
            }
        }
    }

    private static void later(FillAndGo x, List<String> seen) {
        for (int k = 0; k < 8; k++) see(x, seen, "minutes", 200);
        atBuses(x, seen);
        for (int what = 0; what < 10; what++) see(x, seen, "count", what);
    }

    /** SEATS, OWNER, TARGET and FUEL show when all BUSES RUN for a DAY, with no CUSTOM but one by OWNERS. */
    private static void withAllOnTheWay(FillAndGo x, List<String> seen) {
        x.custom();
        int owners = Testing.customOf(x, "fare=1/fare=2?owner=1/fare=3?owner=2/fare=4?owner=3/fare=5?owner=4/fare=6?owner=5");
        for (int a = 0; a < 6; a++) {
            x.force(a, owners);
            for (int b = 0; b < 6; b++) x.people(a, b, 99);
            x.road(a, (a + 1) % 6, 3);
        }
        for (int b = 0; b < 12; b++) {
            x.wants(b, 0);
            x.queue(b, b % 6);
        }
        for (int k = 0; k < 8; k++) {
            x.minutes(200);
            for (int b = 0; b < 12; b++) see(x, seen, "busTold", b, 6);
        }
        for (int b = 0; b < 12; b++) see(x, seen, "busTold", b, 9);
    }
}
