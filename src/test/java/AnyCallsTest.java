import java.lang.reflect.InvocationTargetException;
import java.lang.reflect.Method;
import java.lang.reflect.Modifier;
import java.util.Arrays;
import java.util.Comparator;
import java.util.Random;

/**
 * Runs of 512 calls with all kinds of arguments: no call throws what its promise does not name, none that throws
 * changes anything that can be looked at, and all stays sound.
 */
public final class AnyCallsTest {
    private static final int[] ODD = {0, 1, 2, 3, 4, 5, 6, 7, 8, 11, 12, 13, 18, 19, 40, 41, 60, 61, 63, 64, 99, 100,
        1000, 1001, 4095, 4096, 1000000, 1000001, -1, -2, -64, Integer.MAX_VALUE, Integer.MIN_VALUE};

    public static void main(String[] arguments) throws IllegalAccessException {
        Method[] face = Syzygium.class.getDeclaredMethods();
        face = Arrays.stream(face).filter(m -> Modifier.isPublic(m.getModifiers())).toArray(Method[]::new);
        Arrays.sort(face, Comparator.comparing(Method::getName));
        int wrong = face.length == 48 ? 0 : 1;
        int calls = 0;
        for (int run = 0; run < 150; run++) {
            Random random = new Random(run);
            Syzygium s = new Syzygium();
            for (int i = 0; i < 512; i++) {
                Method method = face[random.nextInt(face.length)];
                if (random.nextInt(3) > 0) {
                    method = named(face, "term push term push ideal join without".split(" ")[random.nextInt(7)]);
                }
                if (method.getName().equals("begin") && i % 40 != 0) {
                    continue;
                }
                long before = state(s);
                Object[] given = values(method, random, run % 3 == 0);
                try {
                    calls++;
                    method.invoke(s, given);
                } catch (InvocationTargetException e) {
                    Class<?> thrown = e.getCause().getClass();
                    if (!Arrays.asList(method.getExceptionTypes()).contains(thrown) || state(s) != before) {
                        wrong++;
                        System.out.println("run " + run + ": " + method.getName() + Arrays.toString(given) + " throws "
                            + e.getCause());
                    }
                }
            }
            if (!s.isSound()) {
                wrong++;
                System.out.println("run " + run + " is not sound");
            }
        }
        System.out.println(calls + " calls of all kinds, " + wrong + " wrong");
        if (wrong != 0) {
            System.exit(1);
        }
    }

    private static Method named(Method[] face, String name) {
        return Arrays.stream(face).filter(m -> m.getName().equals(name)).findFirst().orElseThrow();
    }

    private static long state(Syzygium s) {
        long sum = s.checksum() * 31 + s.ideals();
        for (int dimension = -1; dimension <= 5; dimension++) {
            sum = sum * 31 + s.faces(dimension);
        }
        return sum;
    }

    private static Object[] values(Method method, Random random, boolean isOdd) {
        Object[] values = new Object[method.getParameterCount()];
        for (int i = 0; i < values.length; i++) {
            int number = isOdd || random.nextInt(12) == 0 ? ODD[random.nextInt(ODD.length)] : random.nextInt(5);
            char sign = "gd+*&:~gd+*&:~x".charAt(random.nextInt(15));
            values[i] = method.getParameterTypes()[i] == char.class ? (Object) sign : (Object) number;
        }
        if (method.getName().equals("begin") && !isOdd) {
            values[0] = new int[] {2, 3, 5, 7}[random.nextInt(4)];
            values[1] = 2 + random.nextInt(2);
            values[2] = "gd".charAt(random.nextInt(2));
        }
        return values;
    }
}
