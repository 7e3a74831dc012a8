import java.util.ArrayList;
import java.util.List;
import java.util.function.Supplier;

/** What the tests of single sentences share: naming them, comparing answers, and making ideals out of short texts. */
public final class Calls {
    public static final String ARGUMENT = "IllegalArgumentException";
    public static final String INDEX = "IndexOutOfBoundsException";
    public static final String STATE = "IllegalStateException";
    public static final String REFUSED = "UnsupportedOperationException";
    public static final String NONE = "NoSuchElementException";
    public static final String NUMBERS = "ArithmeticException";
    public static final int LEAST = Integer.MIN_VALUE;
    public static final int MOST = Integer.MAX_VALUE;

    private static int tests;
    private static int looks;
    private static int wrong;
    private static String sentence = "";

    private Calls() {
    }

    /** Runs the test of one sentence; what it throws is a fault of its own, the next ones go on. */
    public static void test(String name, Runnable body) {
        tests++;
        sentence = name;
        try {
            body.run();
        } catch (RuntimeException e) {
            wrong++;
            System.out.println(name + ": broken off by " + e);
        }
    }

    public static void due(Object got, Object want) {
        due("", got, want);
    }

    public static void due(String what, Object got, Object want) {
        looks++;
        if (!String.valueOf(got).equals(String.valueOf(want))) {
            wrong++;
            System.out.println(sentence + " / " + what + ": answered " + got + ", due is " + want);
        }
    }

    public static void end() {
        System.out.println(tests + " tests, " + looks + " looks, " + wrong + " wrong");
        if (wrong != 0 || tests == 0) {
            System.exit(1);
        }
    }

    /** What a call answers, or the simple name of what it throws. */
    public static Object of(Supplier<Object> call) {
        try {
            return call.get();
        } catch (RuntimeException e) {
            return e.getClass().getSimpleName();
        }
    }

    public static Renewed ring(int prime, int letters, char order) {
        Renewed s = new Renewed();
        s.begin(prime, letters, order);
        return s;
    }

    /** Adds terms told as "number xyz-powers", as in "1 200, -1 011". */
    public static int poly(Renewed s, String polynomial) {
        int words = 0;
        for (String term : polynomial.trim().split(",")) {
            String[] t = term.trim().split(" ");
            words = s.term(Integer.parseInt(t[0]), t[1].charAt(0) - '0', t[1].charAt(1) - '0', t[1].charAt(2) - '0');
        }
        return words;
    }

    /** Puts polynomials, apart by ';', behind the list; one that is 0 is left out. */
    public static void list(Renewed s, String polynomials) {
        for (String polynomial : polynomials.split(";")) {
            if (poly(s, polynomial) > 0) {
                s.push();
            }
        }
    }

    /** Makes the ideal of some polynomials; that of no text is 0. */
    public static int ideal(Renewed s, String polynomials) {
        if (!polynomials.isEmpty()) {
            list(s, polynomials);
        }
        return s.ideal();
    }

    /** Fills the object up to 12 ideals with that of 0. */
    public static void fill(Renewed s) {
        while (s.ideals() < 12) {
            s.ideal();
        }
    }

    /** The leading words of a basis, in their row. */
    public static String leads(Renewed s, int ideal, int letters) {
        StringBuilder b = new StringBuilder();
        for (int place = 0; place < s.size(ideal); place++) {
            b.append(place == 0 ? "" : " ");
            for (int letter = 0; letter < 3; letter++) {
                b.append(letter < letters ? s.lead(ideal, place, letter) : 0);
            }
        }
        return b.toString();
    }

    /** A basis as the data tell it: polynomials apart by "; ", terms as "number.xyz", by falling words. */
    public static String basis(Renewed s, int ideal, int letters, char order) {
        StringBuilder b = new StringBuilder();
        int size = s.size(ideal);
        for (int place = 0; place < size; place++) {
            b.append(place == 0 ? "" : "; ").append(polynomialAt(s, ideal, place, letters, order));
        }
        return b.toString();
    }

    /** A polynomial of a basis, looked for from its leading word on, until there are as many words as it has. */
    private static String polynomialAt(Renewed s, int ideal, int place, int letters, char order) {
        StringBuilder b = new StringBuilder();
        int[] lead = new int[3];
        for (int letter = 0; letter < letters; letter++) {
            int l = letter;
            lead[letter] = of(() -> s.lead(ideal, place, l)) instanceof Integer power ? power : 0;
        }
        int left = s.words(ideal, place);
        for (int[] w : words(letters, 6, order)) {
            int number = left == 0 || isGreater(w, lead, order) ? 0 : s.numberOf(ideal, place, w[0], w[1], w[2]);
            if (number != 0) {
                b.append(b.length() == 0 ? "" : " ").append(number).append('.').append(w[0]).append(w[1]).append(w[2]);
                left--;
            }
        }
        return b + (left == 0 ? "" : " and " + left + " more");
    }

    /** All words up to a degree, by falling words of an order, as the document tells these. */
    public static List<int[]> words(int letters, int most, char order) {
        List<int[]> all = new ArrayList<>();
        for (int x = 0; x <= most; x++) {
            for (int y = 0; x + y <= most; y++) {
                for (int z = 0; x + y + z <= most && (z == 0 || letters > 2); z++) {
                    all.add(new int[] {x, y, z});
                }
            }
        }
        all.sort((a, b) -> isGreater(a, b, order) ? -1 : isGreater(b, a, order) ? 1 : 0);
        return all;
    }

    public static boolean isGreater(int[] a, int[] b, char order) {
        int degrees = a[0] + a[1] + a[2] - b[0] - b[1] - b[2];
        if (degrees != 0) {
            return degrees > 0;
        }
        for (int k = 0; k < 3; k++) {
            int letter = order == 'g' ? 2 - k : k;
            if (a[letter] != b[letter]) {
                return order == 'g' ? a[letter] < b[letter] : a[letter] > b[letter];
            }
        }
        return false;
    }

    /**
     * All that can be told of the polynomial: the numbers of its words, found by adding each word until it is gone, and
     * whether there is z. The polynomial is then as before.
     */
    public static String polynomial(Renewed s, int prime) {
        boolean hasZ = of(() -> s.term(0, 0, 0, 1)) instanceof Integer;
        StringBuilder b = new StringBuilder(hasZ ? "xyz" : "xy");
        int before = s.term(0, 0, 0, 0);
        int words = 0;
        for (int[] w : words(hasZ ? 3 : 2, 4, 'g')) {
            int now = s.term(1, w[0], w[1], w[2]);
            int number = prime - 1;
            while (number > 0 && now == before) {
                now = s.term(1, w[0], w[1], w[2]);
                number--;
            }
            s.term(now < before ? number : -1, w[0], w[1], w[2]);
            if (now < before) {
                b.append(' ').append(number).append('.').append(w[0]).append(w[1]).append(w[2]);
                words++;
            }
        }
        boolean isAsBefore = words == before && s.term(0, 0, 0, 0) == before;
        return b + (isAsBefore ? "" : " not modulo " + prime);
    }

    /** The same object with the ideal of 0 behind the others. */
    public static Renewed zero(Renewed s) {
        s.ideal();
        return s;
    }

    /** Makes the ideal of 12 words of the degree 4, of three letters. */
    public static int twelveWords(Renewed s) {
        int one = ideal(s, "1 400; 1 040; 1 004; 1 310");
        int other = s.join('+', one, ideal(s, "1 130; 1 103; 1 301; 1 031"));
        return s.join('+', other, ideal(s, "1 013; 1 121; 1 112; 1 211"));
    }

    /** Makes the ideal of the sixth powers of three letters. */
    public static int sixthPowers(Renewed s) {
        int sum = -1;
        for (String power : new String[] {"1 300", "1 030", "1 003"}) {
            int third = ideal(s, power);
            int sixth = s.join('*', third, third);
            sum = sum < 0 ? sixth : s.join('+', sum, sixth);
        }
        return sum;
    }

    /** The powers of the leading words of a basis. */
    public static int[][] leadsOf(Renewed s, int ideal, int letters) {
        int[][] leads = new int[s.size(ideal)][3];
        for (int i = 0; i < leads.length; i++) {
            for (int letter = 0; letter < letters; letter++) {
                leads[i][letter] = s.lead(ideal, i, letter);
            }
        }
        return leads;
    }

    public static boolean isStandard(int[][] leads, int x, int y, int z) {
        for (int[] w : leads) {
            if (w[0] <= x && w[1] <= y && w[2] <= z) {
                return false;
            }
        }
        return true;
    }

    /** Calls a method of one ideal, each other argument being the same number. */
    public static Object called(Renewed s, String name, int ideal, int other) {
        switch (name) {
            case "size": return s.size(ideal);
            case "lead": return s.lead(ideal, other, other);
            case "words": return s.words(ideal, other);
            case "numberOf": return s.numberOf(ideal, other, other, other, other);
            case "has": return s.has(ideal);
            case "rest": return s.rest(ideal);
            case "inRadical": return s.inRadical(ideal);
            case "without": return s.without(ideal, other);
            case "isGraded": return s.isGraded(ideal);
            case "standard": return s.standard(ideal, other);
            case "standardAt": return s.standardAt(ideal, other, other);
            case "series": return s.series(ideal, other);
            case "polynomial": return s.polynomial(ideal, other);
            case "dimension": return s.dimension(ideal);
            case "multiplicity": return s.multiplicity(ideal);
            case "roots": return s.roots(ideal);
            case "table": return s.table(ideal, other, other);
            case "length": return s.length(ideal);
            case "regularity": return s.regularity(ideal);
            case "depth": return s.depth(ideal);
            case "isOfWords": return s.isOfWords(ideal);
            case "components": return s.components(ideal);
            case "componentAt": return s.componentAt(ideal, other, other);
            case "primes": return s.primes(ideal);
            case "primeAt": return s.primeAt(ideal, other);
            default: return s.radical(ideal);
        }
    }
}
