import java.lang.reflect.Constructor;
import java.lang.reflect.Field;
import java.lang.reflect.Method;
import java.lang.reflect.Modifier;
import java.util.ArrayList;
import java.util.Arrays;
import java.util.Collections;
import java.util.List;
import java.util.stream.Collectors;

/** The public face: each method as the document writes it down, with what it says that it throws, and nothing else. */
public final class FaceTest {
    /** The face of the document, without the names of the arguments. */
    private static final String FACE = """
        int begin(int, int, char) throws IllegalArgumentException
        int term(int, int, int, int) throws IllegalArgumentException
        int wipe()
        int push() throws UnsupportedOperationException, IllegalStateException
        int dropList()
        int ideal() throws UnsupportedOperationException, IllegalStateException
        int ideals()
        int size(int) throws IndexOutOfBoundsException
        int lead(int, int, int) throws IndexOutOfBoundsException, IllegalArgumentException
        int words(int, int) throws IndexOutOfBoundsException
        int numberOf(int, int, int, int, int) throws IndexOutOfBoundsException
        boolean has(int) throws IndexOutOfBoundsException
        int rest(int) throws IndexOutOfBoundsException
        boolean inRadical(int) throws IndexOutOfBoundsException
        boolean isSame(int, int) throws IndexOutOfBoundsException
        boolean isWithin(int, int) throws IndexOutOfBoundsException
        int join(char, int, int) throws IllegalArgumentException, IndexOutOfBoundsException, \
        UnsupportedOperationException, IllegalStateException
        int without(int, int) throws IndexOutOfBoundsException, IllegalArgumentException, \
        UnsupportedOperationException, IllegalStateException
        boolean isGraded(int) throws IndexOutOfBoundsException
        int standard(int, int) throws IndexOutOfBoundsException, IllegalArgumentException
        int standardAt(int, int, int) throws IndexOutOfBoundsException, IllegalArgumentException, NoSuchElementException
        long series(int, int) throws IndexOutOfBoundsException, IllegalArgumentException
        long polynomial(int, int) throws IndexOutOfBoundsException, IllegalArgumentException
        int dimension(int) throws IndexOutOfBoundsException
        long multiplicity(int) throws IndexOutOfBoundsException
        int roots(int) throws IndexOutOfBoundsException
        int table(int, int, int) throws IndexOutOfBoundsException, IllegalArgumentException, \
        UnsupportedOperationException
        int length(int) throws IndexOutOfBoundsException, UnsupportedOperationException
        int regularity(int) throws IndexOutOfBoundsException, UnsupportedOperationException
        int depth(int) throws IndexOutOfBoundsException, UnsupportedOperationException
        boolean isOfWords(int) throws IndexOutOfBoundsException
        int components(int) throws IndexOutOfBoundsException, UnsupportedOperationException
        int componentAt(int, int, int) throws IndexOutOfBoundsException, UnsupportedOperationException, \
        IllegalArgumentException, NoSuchElementException
        int primes(int) throws IndexOutOfBoundsException, UnsupportedOperationException
        int primeAt(int, int) throws IndexOutOfBoundsException, UnsupportedOperationException, NoSuchElementException
        int radical(int) throws IndexOutOfBoundsException, UnsupportedOperationException, IllegalStateException
        int put(int) throws IllegalArgumentException
        int clear()
        int faces(int) throws IllegalArgumentException
        int facetAt(int) throws NoSuchElementException
        int holes(int) throws IllegalArgumentException
        int dual()
        boolean canBeShelled() throws UnsupportedOperationException
        long ways(int, int, int, int) throws IllegalArgumentException
        float gradedShare() throws ArithmeticException
        double meanSize() throws ArithmeticException
        long checksum()
        boolean isSound()
        """;

    public static void main(String[] arguments) {
        Calls.test("the class is public and final, and no other one stands above it", () -> {
            Calls.due(Modifier.toString(Syzygium.class.getModifiers()), "public final");
            Calls.due(Syzygium.class.getName(), "Syzygium");
            Calls.due(Syzygium.class.getSuperclass(), Object.class);
            Calls.due(Syzygium.class.getInterfaces().length, 0);
        });
        Calls.test("1: one constructor, public, that throws nothing", () -> {
            List<String> got = new ArrayList<>();
            for (Constructor<?> constructor : Syzygium.class.getDeclaredConstructors()) {
                if (!Modifier.isPrivate(constructor.getModifiers()) && !constructor.isSynthetic()) {
                    got.add(constructor.toString());
                }
            }
            Calls.due(got, "[public Syzygium()]");
        });
        Calls.test("each method of the face, and no other one that can be called", () -> {
            List<String> got = new ArrayList<>();
            for (Method method : Syzygium.class.getDeclaredMethods()) {
                if (!Modifier.isPrivate(method.getModifiers()) && !method.isSynthetic()) {
                    Calls.due(method.getName(), Modifier.toString(method.getModifiers()), "public");
                    got.add(told(method));
                }
            }
            List<String> due = new ArrayList<>(Arrays.asList(FACE.strip().split("\n")));
            Collections.sort(got);
            Collections.sort(due);
            Calls.due("how many", got.size(), 48);
            Calls.due(String.join("\n", got), String.join("\n", due));
        });
        Calls.test("no field that can be seen, and no class inside that others can see", () -> {
            for (Field field : Syzygium.class.getDeclaredFields()) {
                Calls.due(field.getName(), Modifier.isPrivate(field.getModifiers()) || field.isSynthetic(), true);
            }
            for (Class<?> inside : Syzygium.class.getDeclaredClasses()) {
                int modifiers = inside.getModifiers();
                Calls.due(inside.getName(), Modifier.isPublic(modifiers) || Modifier.isProtected(modifiers), false);
            }
        });
        Calls.end();
    }

    private static String told(Method method) {
        String exceptions = names(method.getExceptionTypes());
        return method.getReturnType().getSimpleName() + " " + method.getName() + "(" + names(method.getParameterTypes())
            + ")" + (exceptions.isEmpty() ? "" : " throws " + exceptions);
    }

    private static String names(Class<?>[] types) {
        return Arrays.stream(types).map(Class::getSimpleName).collect(Collectors.joining(", "));
    }
}
