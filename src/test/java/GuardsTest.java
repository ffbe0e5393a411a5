import java.lang.reflect.Field;
import java.lang.reflect.InvocationTargetException;
import java.lang.reflect.Method;
import java.lang.reflect.Modifier;
import java.util.Arrays;
import java.util.Comparator;
import java.util.Random;

/**
 * No call throws, whatever its arguments are, even if the rows inside hold numbers that no call puts there: what comes
 * out of a row is looked at before it is a place in another one.
 */
public final class GuardsTest {
    private static final int RUNS = 2000;
    private static final int[] ENDS = {Integer.MIN_VALUE, Integer.MIN_VALUE + 1, -100, -9, -2, -1, 8, 9, 10, 24, 25, 60, 61, 96,
        99, 100, 255, 256, 999, Integer.MAX_VALUE - 1, Integer.MAX_VALUE};
    private static final Method[] CALLS = EachLendsHisFace.class.getDeclaredMethods();
    private static int failed = 0;

    private static int anyNumber(Random random) {
        return random.nextInt(3) == 0 ? ENDS[random.nextInt(ENDS.length)] : random.nextInt(8);
    }

    private static void fillRows(Object holder, Random random) throws IllegalAccessException {
        for (Field field : holder.getClass().getDeclaredFields()) {
            if (Modifier.isStatic(field.getModifiers())) {
                continue;
            }
            field.setAccessible(true);
            Object held = field.get(holder);
            if (held instanceof int[] row) {
                for (int i = 0; i < row.length; i++) {
                    row[i] = anyNumber(random);
                }
            } else if (held != null && held.getClass().getEnclosingClass() == EachLendsHisFace.class) {
                fillRows(held, random);
            }
        }
    }

    private static void call(EachLendsHisFace x, Method method, Random random, String when) throws IllegalAccessException {
        Object[] arguments = new Object[method.getParameterCount()];
        for (int i = 0; i < arguments.length; i++) {
            arguments[i] = anyNumber(random);
        }
        try {
            method.invoke(x, arguments);
        } catch (InvocationTargetException thrown) {
            failed++;
            System.out.println(when + ": " + method.getName() + Arrays.toString(arguments) + " threw " + thrown.getCause());
        }
    }

    private static void callAll(EachLendsHisFace x, Random random, String when) throws IllegalAccessException {
        for (Method method : CALLS) {
            if (Modifier.isPublic(method.getModifiers())) {
                call(x, method, random, when);
            }
        }
    }

    private static void tell(EachLendsHisFace x, String text) {
        for (char c : text.toCharArray()) {
            x.letter(c);
        }
    }

    public static void main(String[] args) throws IllegalAccessException {
        // The order that the machine tells methods in is free.
        Arrays.sort(CALLS, Comparator.comparing(Method::getName));
        for (int run = 0; run < RUNS && failed < 20; run++) {
            Random random = new Random(run);
            EachLendsHisFace x = new EachLendsHisFace();
            callAll(x, random, "run " + run + ", nobody there");
            x.town();
            tell(x, "pp2;pb7;pm4;pk0;pd8;pg1;".substring(0, 4 * (1 + random.nextInt(6))));
            x.town();
            x.image();
            callAll(x, random, "run " + run + ", a town");
            for (int i = 0; i < 3; i++) {
                fillRows(x, random);
                callAll(x, random, "run " + run + ", any rows");
            }
        }
        System.out.println(failed == 0 ? "no call threw" : "calls threw");
        if (failed != 0) {
            System.exit(1);
        }
    }
}
