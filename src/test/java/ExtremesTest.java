import java.lang.reflect.InvocationTargetException;
import java.lang.reflect.Method;
import java.lang.reflect.Modifier;
import java.util.ArrayList;
import java.util.Comparator;
import java.util.List;
import java.util.Random;

/** No call ever throws, whatever its arguments are and in whatever state the object is. */
public final class ExtremesTest {
    private static final int[] FAR = {Integer.MIN_VALUE, Integer.MIN_VALUE + 1, -1000000, -5, -2, -1, 41, 99, 100, 161,
        1000000, 1073741824, Integer.MAX_VALUE - 4, Integer.MAX_VALUE - 1, Integer.MAX_VALUE};

    public static void main(String[] args) throws IllegalAccessException {
        List<Method> calls = new ArrayList<>();
        for (Method m : FillAndGo.class.getDeclaredMethods()) {
            if (Modifier.isPublic(m.getModifiers())) calls.add(m);
        }
        calls.sort(Comparator.comparing(Method::getName));
        int wrong = 0, made = 0;
        for (int run = 0; run < 600; run++) {
            Random random = new Random(31L * run + 5);
            FillAndGo x = new FillAndGo();
            for (int b = random.nextInt(13); b > 0; b--) x.bus(1 + random.nextInt(8), 0, 10, 1);
            for (int i = 0; i < 500; i++) {
                Method m = calls.get(random.nextInt(calls.size()));
                Object[] told = new Object[m.getParameterCount()];
                for (int k = 0; k < told.length; k++) told[k] = made(random, m.getParameterTypes()[k]);
                made++;
                try {
                    m.invoke(x, told);
                } catch (InvocationTargetException e) {
                    wrong++;
                    System.out.println(m.getName() + java.util.Arrays.toString(told) + " threw " + e.getCause());
                }
            }
        }
        System.out.println(wrong == 0 ? made + " calls, none threw" : wrong + " calls threw");
        if (wrong != 0) System.exit(1);
    }

    private static Object made(Random random, Class<?> type) {
        if (type == long.class) {
            String tape = "go=5/fare=keep?waited<sold>";
            long w = random.nextLong();
            for (int i = 0; i < 8; i++) w = w << 8 | tape.charAt(random.nextInt(tape.length()));
            return w;
        }
        int dice = random.nextInt(12);
        return dice == 0 ? FAR[random.nextInt(FAR.length)] : dice < 3 ? random.nextInt(41) : random.nextInt(6);
    }
}
