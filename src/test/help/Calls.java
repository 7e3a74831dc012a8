import java.util.ArrayList;
import java.util.List;
import java.util.function.Supplier;

/** What the tests of single sentences share: naming them, comparing answers, and making ideals out of short texts. */
public final class Calls {
    public static final String ARGUMENT = "IllegalArgumentException";
    public static final String INDEX = "IndexOutOfBoundsException";
    public static final String STATE = "IllegalStateException";
    public static final String REFUSED = "UnsupportedOperationException";
    public static final String NONE = "NoSuchElementException";
    public static final String NUMBERS = "ArithmeticException";
    public static final int LEAST = Integer.MIN_VALUE;
    public static final int MOST = Integer.MAX_VALUE;

    private static int tests;
    private static int looks;
    private static int wrong;
    private static String sentence = "";

    private Calls() {
    }

    /** Runs the test of one sentence; what it throws is a fault of its own, the next ones go on. */
    public static void test(String name, Runnable body) {
        tests++;
        sentence = name;
        try {
            body.run();
        } catch (RuntimeException e) {
            wrong++;
            System.out.println(name + ": broken off by " + e);
        }
    }

    public static void due(Object got, Object want) {
        due("", got, want);
    }

    public static void due(String what, Object got, Object want) {
        looks++;
        if (!String.valueOf(got).equals(String.valueOf(want))) {
            wrong++;
            System.out.println(sentence + " / " + what + ": answered " + got + ", due is " + want);
        }
    }

    public static void end() {
        System.out.println(tests + " tests, " + looks + " looks, " + wrong + " wrong");
        if (wrong != 0 || tests == 0) {
            System.exit(1);
        }
    }

    /** What a call answers, or the simple name of what it throws. */
    public static Object of(Supplier<Object> call) {
        try {
            return call.get();
        } catch (RuntimeException e) {
            return e.getClass().getSimpleName();
        }
    }

    public static Syzygium ring(int prime, int letters, char order) {
        Syzygium s = new Syzygium();
        s.begin(prime, letters, order);
        return s;
    }

    /** Adds terms told as "number xyz-powers", as in "1 200, -1 011". */
    public static int poly(Syzygium s, String polynomial) {
        int words = 0;
        for (String term : polynomial.trim().split(",")) {
            String[] t = term.trim().split(" ");
            words = s.term(Integer.parseInt(t[0]), t[1].charAt(0) - '0', t[1].charAt(1) - '0', t[1].charAt(2) - '0');
        }
        return words;
    }

    /** Puts polynomials, apart by ';', behind the list; one that is 0 is left out. */
    public static void list(Syzygium s, String polynomials) {
        for (String polynomial : polynomials.split(";")) {
            if (poly(s, polynomial) > 0) {
                s.push();
            }
        }
    }

    /** Makes the ideal of some polynomials; that of no text is 0. */
    public static int ideal(Syzygium s, String polynomials) {
        if (!polynomials.isEmpty()) {
            list(s, polynomials);
        }
        return s.ideal();
    }

    /** Fills the object up to 12 ideals with that of 0. */
    public static void fill(Syzygium s) {
        while (s.ideals() < 12) {
            s.ideal();
        }
    }

    /** The leading words of a basis, in their row. */
    public static String leads(Syzygium s, int ideal, int letters) {
        StringBuilder b = new StringBuilder();
        for (int place = 0; place < s.size(ideal); place++) {
            b.append(place == 0 ? "" : " ");
            for (int letter = 0; letter < 3; letter++) {
                b.append(letter < letters ? s.lead(ideal, place, letter) : 0);
            }
        }
        return b.toString();
    }

    /** A basis as the data tell it: polynomials apart by "; ", terms as "number.xyz", by falling words. */
    public static String basis(Syzygium s, int ideal, int letters, char order) {
        StringBuilder b = new StringBuilder();
        for (int place = 0; place < s.size(ideal); place++) {
            b.append(place == 0 ? "" : "; ");
            int words = 0;
            for (int[] w : words(letters, 6, order)) {
                int number = s.numberOf(ideal, place, w[0], w[1], w[2]);
                if (number != 0) {
                    b.append(words == 0 ? "" : " ").append(number).append('.').append(w[0]).append(w[1]).append(w[2]);
                    words++;
                }
            }
            b.append(words == s.words(ideal, place) ? "" : " and more");
        }
        return b.toString();
    }

    /** All words up to a degree, by falling words of an order, as the document tells these. */
    public static List<int[]> words(int letters, int most, char order) {
        List<int[]> all = new ArrayList<>();
        for (int x = 0; x <= most; x++) {
            for (int y = 0; x + y <= most; y++) {
                for (int z = 0; x + y + z <= most && (z == 0 || letters > 2); z++) {
                    all.add(new int[] {x, y, z});
                }
            }
        }
        all.sort((a, b) -> isGreater(a, b, order) ? -1 : isGreater(b, a, order) ? 1 : 0);
        return all;
    }

    public static boolean isGreater(int[] a, int[] b, char order) {
        int degrees = a[0] + a[1] + a[2] - b[0] - b[1] - b[2];
        if (degrees != 0) {
            return degrees > 0;
        }
        for (int k = 0; k < 3; k++) {
            int letter = order == 'g' ? 2 - k : k;
            if (a[letter] != b[letter]) {
                return order == 'g' ? a[letter] < b[letter] : a[letter] > b[letter];
            }
        }
        return false;
    }

    /**
     * All that can be told of the polynomial: the numbers of its words, found by adding each word until it is as
     * before, and whether there is z. The polynomial is then as before.
     */
    public static String polynomial(Syzygium s, int prime) {
        boolean hasZ = of(() -> s.term(0, 0, 0, 1)) instanceof Integer;
        StringBuilder b = new StringBuilder(hasZ ? "xyz" : "xy");
        for (int[] w : words(hasZ ? 3 : 2, 4, 'g')) {
            int before = s.term(0, 0, 0, 0);
            int number = 0;
            for (int k = 1; k <= prime; k++) {
                if (s.term(1, w[0], w[1], w[2]) < before) {
                    number = prime - k;
                }
            }
            if (s.term(0, 0, 0, 0) != before) {
                b.append(" not modulo ").append(prime);
            }
            if (number != 0) {
                b.append(' ').append(number).append('.').append(w[0]).append(w[1]).append(w[2]);
            }
        }
        return b.toString();
    }

    /** The same object with the ideal of 0 behind the others. */
    public static Syzygium zero(Syzygium s) {
        s.ideal();
        return s;
    }

    /** Makes the ideal of 12 words of the degree 4, of three letters. */
    public static int twelveWords(Syzygium s) {
        int one = ideal(s, "1 400; 1 040; 1 004; 1 310");
        int other = s.join('+', one, ideal(s, "1 130; 1 103; 1 301; 1 031"));
        return s.join('+', other, ideal(s, "1 013; 1 121; 1 112; 1 211"));
    }

    /** Makes the ideal of the sixth powers of three letters. */
    public static int sixthPowers(Syzygium s) {
        int sum = -1;
        for (String power : new String[] {"1 300", "1 030", "1 003"}) {
            int third = ideal(s, power);
            int sixth = s.join('*', third, third);
            sum = sum < 0 ? sixth : s.join('+', sum, sixth);
        }
        return sum;
    }

    /** The powers of the leading words of a basis. */
    public static int[][] leadsOf(Syzygium s, int ideal, int letters) {
        int[][] leads = new int[s.size(ideal)][3];
        for (int i = 0; i < leads.length; i++) {
            for (int letter = 0; letter < letters; letter++) {
                leads[i][letter] = s.lead(ideal, i, letter);
            }
        }
        return leads;
    }

    public static boolean isStandard(int[][] leads, int x, int y, int z) {
        for (int[] w : leads) {
            if (w[0] <= x && w[1] <= y && w[2] <= z) {
                return false;
            }
        }
        return true;
    }

    /** Calls a method of one ideal, each other argument being the same number. */
    public static Object called(Syzygium s, String name, int ideal, int other) {
        switch (name) {
            case "size": return s.size(ideal);
            case "lead": return s.lead(ideal, other, other);
            case "words": return s.words(ideal, other);
            case "numberOf": return s.numberOf(ideal, other, other, other, other);
            case "has": return s.has(ideal);
            case "rest": return s.rest(ideal);
            case "inRadical": return s.inRadical(ideal);
            case "without": return s.without(ideal, other);
            case "isGraded": return s.isGraded(ideal);
            case "standard": return s.standard(ideal, other);
            case "standardAt": return s.standardAt(ideal, other, other);
            case "series": return s.series(ideal, other);
            case "polynomial": return s.polynomial(ideal, other);
            case "dimension": return s.dimension(ideal);
            case "multiplicity": return s.multiplicity(ideal);
            case "roots": return s.roots(ideal);
            case "table": return s.table(ideal, other, other);
            case "length": return s.length(ideal);
            case "regularity": return s.regularity(ideal);
            case "depth": return s.depth(ideal);
            case "isOfWords": return s.isOfWords(ideal);
            case "components": return s.components(ideal);
            case "componentAt": return s.componentAt(ideal, other, other);
            case "primes": return s.primes(ideal);
            case "primeAt": return s.primeAt(ideal, other);
            default: return s.radical(ideal);
        }
    }
}
