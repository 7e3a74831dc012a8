import java.lang.reflect.InvocationTargetException;
import java.lang.reflect.Method;
import java.lang.reflect.Modifier;
import java.util.Arrays;
import java.util.Comparator;
import java.util.Random;

/**
 * Runs of 512 calls with all kinds of arguments: no call throws what its promise does not name, and those that throw
 * change nothing: a twin, that is spared them, answers all other calls alike. All stays sound.
 */
public final class AnyCallsTest {
    private static final int[] ODD = {0, 1, 2, 3, 4, 5, 6, 7, 8, 11, 12, 13, 18, 19, 40, 41, 60, 61, 63, 64, 99, 100,
        1000, 1001, 4095, 4096, 1000000, 1000001, -1, -2, -64, Integer.MAX_VALUE, Integer.MIN_VALUE};
    /** 20 calls are left for the look at the end. */
    private static final int CALLS = 492;

    private static final String[] BEGIN = ("begin term term push term term term push ideal term push term push ideal "
        + "term term term push ideal").split(" ");
    private static final String[] OFTEN = "term term push ideal join join join without put".split(" ");

    private static final Method[] FACE = face();
    private static int wrong;
    private static int calls;
    private static int thrown;

    public static void main(String[] arguments) {
        for (int run = 0; run < 300; run++) {
            run(run);
        }
        System.out.println(calls + " calls of all kinds, " + thrown + " of them throw, " + wrong + " wrong");
        if (wrong != 0 || FACE.length != 48) {
            System.exit(1);
        }
    }

    private static Method[] face() {
        Method[] face = Syzygium.class.getDeclaredMethods();
        face = Arrays.stream(face).filter(m -> Modifier.isPublic(m.getModifiers())).toArray(Method[]::new);
        Arrays.sort(face, Comparator.comparing(Method::getName));
        return face;
    }

    private static void run(int run) {
        Random random = new Random(run);
        Syzygium s = new Syzygium();
        Syzygium twin = new Syzygium();
        for (int i = 0; i < CALLS; i++) {
            Method method = next(i % 80, random);
            Object[] given = values(method, random, run % 3 == 0);
            String what = "run " + run + ", call " + i + ": " + method.getName() + Arrays.toString(given);
            Object answer = called(method, s, given);
            calls++;
            if (answer instanceof Class) {
                thrown++;
                due(what + " throws " + answer, Arrays.asList(method.getExceptionTypes()).contains(answer), true);
            } else {
                due(what, called(method, twin, given), answer);
            }
        }
        due("run " + run + " at the end", told(s), told(twin));
        due("run " + run + " is sound", s.isSound(), true);
    }

    /** Now and then another ring, then three ideals, mostly, then any calls, some of them more often than the others. */
    private static Method next(int step, Random random) {
        if (step < BEGIN.length) {
            return named(BEGIN[step]);
        }
        Method method = FACE[random.nextInt(FACE.length)];
        return random.nextInt(3) == 0 ? named(OFTEN[random.nextInt(OFTEN.length)])
            : named(method.getName().equals("begin") ? "isSound" : method.getName());
    }

    private static void due(String what, Object got, Object want) {
        if (!got.equals(want)) {
            wrong++;
            System.out.println(wrong > 20 ? "and so on" : what + ": answered " + got + ", due is " + want);
        }
    }

    private static Method named(String name) {
        return Arrays.stream(FACE).filter(m -> m.getName().equals(name)).findFirst().orElseThrow();
    }

    /** What a call answers, or the class of what it throws. */
    private static Object called(Method method, Syzygium s, Object[] given) {
        try {
            return method.invoke(s, given);
        } catch (InvocationTargetException e) {
            return e.getCause().getClass();
        } catch (IllegalAccessException e) {
            throw new IllegalStateException(e);
        }
    }

    private static String told(Syzygium s) {
        StringBuilder b = new StringBuilder();
        b.append(s.ideals()).append(' ').append(s.checksum()).append(' ').append(s.wipe()).append(' ').append(s.dropList());
        for (int dimension = -1; dimension <= 5; dimension++) {
            b.append(' ').append(s.faces(dimension)).append('-').append(s.holes(dimension));
        }
        return b.toString();
    }

    /** A number for an argument that often has an answer: small powers, few letters, the first places. */
    private static int usual(Method method, int argument, Random random) {
        switch (method.getName()) {
            case "term": return argument == 3 ? random.nextInt(4) / 3 : argument == 0 ? 1 : random.nextInt(3);
            case "put": return random.nextInt(64);
            default: return random.nextInt(argument == 1 ? 2 : 3);
        }
    }

    private static Object[] values(Method method, Random random, boolean isOdd) {
        Object[] values = new Object[method.getParameterCount()];
        for (int i = 0; i < values.length; i++) {
            int number = isOdd || random.nextInt(20) == 0 ? ODD[random.nextInt(ODD.length)] : usual(method, i, random);
            char sign = "+*&:~+*&:~+*&:~x".charAt(random.nextInt(16));
            values[i] = method.getParameterTypes()[i] == char.class ? (Object) sign : (Object) number;
        }
        if (method.getName().equals("begin") && !isOdd) {
            values[0] = new int[] {2, 3, 5, 7}[random.nextInt(4)];
            values[1] = 2 + random.nextInt(2);
            values[2] = "gd".charAt(random.nextInt(2));
        }
        return values;
    }
}
