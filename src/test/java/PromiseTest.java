import java.util.NoSuchElementException;
import java.util.function.Supplier;

/** For each promise: ordinary inputs, the edges that the document names, and wrong inputs with their exceptions. */
public final class PromiseTest {
    private static int wrong;
    private static int looked;

    private static void due(String what, Object got, Object want) {
        looked++;
        if (!String.valueOf(got).equals(String.valueOf(want))) {
            wrong++;
            System.out.println(what + ": answered " + got + ", due is " + want);
        }
    }

    /** What a call answers, or the simple name of what it throws. */
    private static Object of(Supplier<Object> call) {
        try {
            return call.get();
        } catch (RuntimeException e) {
            return e.getClass().getSimpleName();
        }
    }

    private static final String ARGUMENT = "IllegalArgumentException";
    private static final String INDEX = "IndexOutOfBoundsException";
    private static final String STATE = "IllegalStateException";
    private static final String REFUSED = "UnsupportedOperationException";
    private static final String NONE = "NoSuchElementException";
    private static final String NUMBERS = "ArithmeticException";

    private static Renewed ring(int prime, int letters, char order) {
        Renewed s = new Renewed();
        s.begin(prime, letters, order);
        return s;
    }

    /** Adds terms told as "number xyz-powers", as in "1 200, -1 011", and pushes; polynomials apart by ';'. */
    private static void list(Renewed s, String polynomials) {
        for (String polynomial : polynomials.split(";")) {
            for (String term : polynomial.trim().split(",")) {
                String[] t = term.trim().split(" ");
                s.term(Integer.parseInt(t[0]), t[1].charAt(0) - '0', t[1].charAt(1) - '0', t[1].charAt(2) - '0');
            }
            s.push();
        }
    }

    private static int ideal(Renewed s, String polynomials) {
        list(s, polynomials);
        return s.ideal();
    }

    /** The basis of an ideal: each polynomial from the leading term on, in falling words by the order. */
    private static String basis(Renewed s, int ideal) {
        StringBuilder b = new StringBuilder();
        for (int i = 0; i < s.size(ideal); i++) {
            int fi = i;
            int z = of(() -> s.lead(ideal, fi, 2)) instanceof Integer ? s.lead(ideal, i, 2) : 0;
            b.append(i > 0 ? "; " : "").append(s.lead(ideal, i, 0)).append(s.lead(ideal, i, 1)).append(z).append(":");
            for (int x = 6; x >= 0; x--) {
                for (int y = 6; y >= 0; y--) {
                    for (int c = 6; c >= 0; c--) {
                        int number = s.numberOf(ideal, i, x, y, c);
                        if (number != 0) {
                            b.append(' ').append(number).append('.').append(x).append(y).append(c);
                        }
                    }
                }
            }
        }
        return b.toString();
    }

    public static void main(String[] arguments) {
        rings();
        polynomials();
        ideals();
        looks();
        tests();
        joins();
        freed();
        counting();
        values();
        tables();
        ofWords();
        faces();
        shelling();
        sums();
        shares();
        full();
        orders();
        unchanged();
        System.out.println(looked + " looks, " + wrong + " wrong");
        if (wrong != 0) {
            System.exit(1);
        }
    }

    private static void rings() {
        Renewed s = new Renewed();
        due("1: ideals of a new object", s.ideals(), 0);
        due("1: faces of a new object", s.clear(), 0);
        due("1: no z at first", of(() -> s.term(1, 0, 0, 1)), ARGUMENT);
        due("1: modulo 2 at first", s.term(2, 1, 1, 0), 0);
        due("1: y is a letter at first", s.term(1, 0, 1, 0), 1);
        due("1: x too", s.term(1, 1, 0, 0), 2);
        due("1: no list", s.dropList(), 0);
        Renewed t = new Renewed();
        ideal(t, "1 020, 1 200");
        due("1: the order g at first, x before y", t.lead(0, 0, 0), 2);

        for (int prime : new int[] {-7, -1, 0, 1, 4, 6, 8, 9, 11, 13}) {
            due("2: prime " + prime, of(() -> s.begin(prime, 2, 'g')), ARGUMENT);
        }
        for (int letters : new int[] {-1, 0, 1, 4}) {
            due("2: letters " + letters, of(() -> s.begin(3, letters, 'g')), ARGUMENT);
        }
        for (char order : new char[] {'l', 'G', 'D', 0, 'f', 'h'}) {
            due("2: order " + (int) order, of(() -> s.begin(3, 2, order)), ARGUMENT);
        }
        due("2: what fails leaves the polynomial", s.wipe(), 2);
        s.put(7);
        s.term(1, 1, 0, 0);
        s.push();
        s.ideal();
        s.ideal();
        s.term(1, 0, 1, 0);
        s.push();
        s.term(1, 0, 1, 0);
        due("2: how many ideals there were", s.begin(3, 3, 'd'), 2);
        due("2: ideals are gone", s.ideals(), 0);
        due("2: the polynomial is gone", s.wipe(), 0);
        due("2: the list is gone", s.dropList(), 0);
        due("2: faces stay", s.facetAt(0), 7);
        for (int prime : new int[] {2, 3, 5, 7}) {
            due("2: fine", s.begin(prime, prime % 2 + 2, 'g'), 0);
        }
        Renewed g = ring(5, 3, 'g');
        ideal(g, "1 020, 1 101");
        due("2: in g yy is before xz", basis(g, 0), "020: 1.101 1.020");
        Renewed d = ring(5, 3, 'd');
        ideal(d, "1 020, 1 101");
        due("2: in d xz is before yy", basis(d, 0), "101: 1.101 1.020");
    }

    private static void polynomials() {
        Renewed s = ring(7, 3, 'g');
        due("3: one word", s.term(3, 1, 2, 1), 1);
        due("3: another one", s.term(-1, 0, 0, 0), 2);
        due("3: no number", s.term(14, 4, 0, 0), 2);
        due("3: the same word", s.term(3, 1, 2, 1), 2);
        due("3: it goes out", s.term(Integer.MAX_VALUE - 1 - (Integer.MAX_VALUE - 1) % 7 + 1, 1, 2, 1), 1);
        due("3: the least number, 5 modulo 7", s.term(Integer.MIN_VALUE, 0, 4, 0), 2);
        s.push();
        s.ideal();
        due("3: numbers modulo the prime", basis(s, 0), "040: 1.040 4.000");
        int[][] wrongWords = {{5, 0, 0}, {0, 5, 0}, {0, 0, 5}, {-1, 0, 0}, {0, -1, 0}, {0, 0, -1}, {3, 2, 0},
            {2, 2, 1}, {5, -1, 0}, {Integer.MAX_VALUE, 1, 0}, {Integer.MIN_VALUE, 0, 0},
            {Integer.MAX_VALUE, Integer.MAX_VALUE, 4}};
        for (int[] w : wrongWords) {
            due("3: wrong powers", of(() -> s.term(1, w[0], w[1], w[2])), ARGUMENT);
            due("3: wrong powers with the number 0", of(() -> s.term(0, w[0], w[1], w[2])), ARGUMENT);
        }
        due("3: nothing has come", s.wipe(), 0);
        Renewed two = ring(3, 2, 'g');
        due("3: no z", of(() -> two.term(1, 0, 0, 1)), ARGUMENT);
        due("3: z to the power of 0", two.term(1, 4, 0, 0), 1);
        due("3: zero to nothing", two.term(3, 0, 0, 0), 1);

        due("4: one", two.wipe(), 1);
        due("4: none", two.wipe(), 0);
        two.term(1, 1, 0, 0);
        two.term(1, 0, 1, 0);
        due("4: two", two.wipe(), 2);
        due("4: it is 0", of(two::push), REFUSED);

        for (int i = 1; i <= 4; i++) {
            two.term(1, i, 0, 0);
            due("5: the list grows", two.push(), i);
            due("5: the polynomial is 0 then", two.wipe(), 0);
        }
        due("5: first, that it is 0", of(two::push), REFUSED);
        two.term(1, 1, 0, 0);
        due("5: the list has 4", of(two::push), STATE);
        due("5: it stays", two.wipe(), 1);
        due("6: four", two.dropList(), 4);
        due("6: none", two.dropList(), 0);
        two.ideal();
        due("6: nothing is left of it", two.size(0), 0);
    }

    private static void ideals() {
        Renewed s = ring(5, 3, 'g');
        due("7: the ideal of 0", s.ideal(), 0);
        due("7: the next one", ideal(s, "1 200, -1 011; 1 110, 4 002"), 1);
        due("7: the list is empty then", s.dropList(), 0);
        due("7: the basis", basis(s, 1), "110: 1.110 4.002; 200: 1.200 4.011; 021: 4.102 1.021");
        due("7: that of all", basis(s, ideal(s, "1 100; 1 100, 2 000")), "000: 1.000");
        due("7: reduced, with 1 at the leading words", basis(s, ideal(s, "2 100, 4 010; 3 010, 1 001")),
            "010: 1.010 2.001; 100: 1.100 1.001");
        due("8: how many", s.ideals(), 4);
        due("9: none", s.size(0), 0);
        due("9: three", s.size(1), 3);
        due("9: one", s.size(2), 1);
        for (int no : new int[] {-1, 4, 12, Integer.MAX_VALUE, Integer.MIN_VALUE}) {
            due("9: no such ideal", of(() -> s.size(no)), INDEX);
        }
        Renewed r = ring(5, 2, 'g');
        list(r, "1 400; 1 310, 1 040");
        due("7: y to the power of 7 is refused", of(r::ideal), REFUSED);
        due("7: the list stays then", r.dropList(), 2);
        due("7: nothing has come", r.ideals(), 0);
        due("7: degree 6 is not refused", basis(r, ideal(r, "1 400; 1 310, 1 130")),
            "310: 1.310 1.130; 400: 1.400; 230: 1.230; 150: 1.150");
        due("7: what comes on the way is not", basis(r, ideal(r, "1 400; 1 310, 1 040; 1 100, 1 010, 1 000")),
            "000: 1.000");
        Renewed q = ring(2, 3, 'g');
        due("7: nine", q.size(ideal(q, "1 400; 1 040; 1 004; 1 220, 1 111, 1 013")), 9);
        due("7: not graded", basis(q, ideal(q, "1 400, 1 011; 1 130, 1 100; 1 004, 1 010")),
            "004: 1.010 1.004; 130: 1.130 1.100; 400: 1.400 1.011; 041: 1.041 1.011; 050: 1.050 1.020");
        Renewed many = ring(2, 3, 'g');
        ideal(many, "1 400; 1 040; 1 004; 1 220, 1 202, 1 022");
        due("7: 12 polynomials at most", many.size(0) <= 12, true);
        ideal(many, "1 220; 1 202; 1 022; 1 211");
        ideal(many, "1 400; 1 040; 1 004");
        ideal(many, "1 310; 1 130; 1 103; 1 301");
        ideal(many, "1 031; 1 013; 1 121; 1 112");
        many.join('+', 1, 2);
        many.join('+', 3, 5);
        due("7: eleven words", many.size(6), 11);
        ideal(many, "1 031");
        due("18: twelve words", many.size(many.join('+', 6, 7)), 12);
        due("18: thirteen are refused", of(() -> many.join('+', 4, 6)), REFUSED);
    }

    private static void looks() {
        Renewed s = ring(7, 3, 'd');
        ideal(s, "1 201, 2 010, 3 000");
        ideal(s, "1 111");
        due("10: x", s.lead(0, 0, 0), 2);
        due("10: y", s.lead(0, 0, 1), 0);
        due("10: z", s.lead(0, 0, 2), 1);
        due("10: no ideal before no letter", of(() -> s.lead(2, 0, 3)), INDEX);
        due("10: no place before no letter", of(() -> s.lead(0, 1, 3)), INDEX);
        due("10: place -1", of(() -> s.lead(0, -1, 0)), INDEX);
        due("10: ideal -1", of(() -> s.lead(-1, 0, 0)), INDEX);
        due("10: no letter 3", of(() -> s.lead(0, 0, 3)), ARGUMENT);
        due("10: no letter -1", of(() -> s.lead(0, 0, -1)), ARGUMENT);
        due("11: three words", s.words(0, 0), 3);
        due("11: one word", s.words(1, 0), 1);
        due("11: no place", of(() -> s.words(1, 1)), INDEX);
        due("11: no ideal", of(() -> s.words(2, 0)), INDEX);
        due("12: the leading one", s.numberOf(0, 0, 2, 0, 1), 1);
        due("12: y", s.numberOf(0, 0, 0, 1, 0), 2);
        due("12: 1", s.numberOf(0, 0, 0, 0, 0), 3);
        due("12: not there", s.numberOf(0, 0, 1, 0, 0), 0);
        for (int power : new int[] {-1, 7, 4096, Integer.MAX_VALUE, Integer.MIN_VALUE}) {
            due("12: a power that cannot be", s.numberOf(0, 0, power, 0, 0), 0);
            due("12: a power that cannot be", s.numberOf(0, 0, 0, power, 0), 0);
            due("12: a power that cannot be", s.numberOf(0, 0, 0, 0, power), 0);
        }
        due("12: no place", of(() -> s.numberOf(0, 1, 0, 0, 0)), INDEX);
        due("12: no ideal", of(() -> s.numberOf(5, 0, 0, 0, 0)), INDEX);
        Renewed two = ring(7, 2, 'd');
        ideal(two, "1 100");
        due("10: no z", of(() -> two.lead(0, 0, 2)), ARGUMENT);
        due("12: no z is no fault", two.numberOf(0, 0, 1, 0, 1), 0);
    }

    private static void tests() {
        Renewed s = ring(5, 2, 'g');
        ideal(s, "1 200; 1 020");
        ideal(s, "1 100");
        ideal(s, "1 000");
        s.ideal();
        due("13: 0 is in each", s.has(3), true);
        s.term(1, 2, 1, 0);
        due("13: in", s.has(0), true);
        s.term(1, 1, 1, 0);
        due("13: not in", s.has(0), false);
        due("13: all", s.has(2), true);
        due("13: not 0", s.has(3), false);
        due("13: no ideal", of(() -> s.has(4)), INDEX);
        due("15: in the radical", s.inRadical(0), true);
        due("15: of all", s.inRadical(2), true);
        due("15: not of 0", s.inRadical(3), false);
        due("15: no ideal", of(() -> s.inRadical(-1)), INDEX);
        due("14: the rest", s.rest(0), 1);
        due("14: it is that now", s.rest(3), 1);
        due("14: 0", s.rest(1), 0);
        due("14: no ideal", of(() -> s.rest(4)), INDEX);
        due("15: 0 is in each radical", s.inRadical(3), true);
        s.term(1, 0, 0, 0);
        due("15: 1 is not", s.inRadical(0), false);
        s.term(1, 1, 0, 0);
        due("15: nor what is not 0 at the root", s.inRadical(0), false);
        s.wipe();
        s.term(1, 0, 1, 0);
        due("15: y is not in the radical of x", s.inRadical(1), false);
        due("15: it stays", s.wipe(), 1);
        due("16: the same", s.isSame(1, 1), true);
        due("16: another one", s.isSame(0, 1), false);
        ideal(s, "2 100; 3 100, 3 200");
        due("16: alike", s.isSame(4, 1), true);
        due("16: within is not enough", s.isSame(1, 2), false);
        due("16: no first", of(() -> s.isSame(5, 0)), INDEX);
        due("16: no second", of(() -> s.isSame(0, 5)), INDEX);
        due("17: within all", s.isWithin(0, 2), true);
        due("17: 0 within each", s.isWithin(3, 0), true);
        due("17: not within", s.isWithin(0, 1), false);
        due("17: not within 0", s.isWithin(0, 3), false);
        due("17: itself", s.isWithin(0, 0), true);
        due("17: no first", of(() -> s.isWithin(-1, 0)), INDEX);
        due("17: no second", of(() -> s.isWithin(0, 9)), INDEX);
        Renewed curve = ring(7, 3, 'g');
        ideal(curve, "1 200, -1 011; 1 110, -1 002");
        curve.term(1, 1, 0, 1);
        curve.term(-1, 0, 2, 0);
        due("15: a curve and a line", curve.inRadical(0), false);
        due("13: it does not hold there", curve.has(0), false);
    }

    private static void joins() {
        Renewed s = ring(3, 3, 'g');
        int a = ideal(s, "1 200, 1 010; 1 001");
        int b = ideal(s, "1 100");
        due("18: sum", basis(s, s.join('+', a, b)), "001: 1.001; 010: 1.010; 100: 1.100");
        due("18: product", basis(s, s.join('*', a, b)), "101: 1.101; 300: 1.300 1.110");
        due("18: meet", basis(s, s.join('&', a, b)), "101: 1.101; 300: 1.300 1.110");
        due("18: quotient", basis(s, s.join(':', a, b)), basis(s, a));
        int c = ideal(s, "1 310");
        due("18: quotient of a word", basis(s, s.join(':', c, b)), "210: 1.210");
        due("18: saturation", basis(s, s.join('~', c, b)), "010: 1.010");
        due("18: the number", s.ideals(), 9);
        Renewed o = ring(2, 2, 'd');
        o.ideal();
        ideal(o, "1 000");
        ideal(o, "1 200; 1 020");
        due("18: by 0", basis(o, o.join(':', 2, 0)), "000: 1.000");
        due("18: saturated by 0", basis(o, o.join('~', 2, 0)), "000: 1.000");
        due("18: 0 by 0", basis(o, o.join(':', 0, 0)), "000: 1.000");
        due("18: 0 by another one", o.size(o.join('~', 0, 2)), 0);
        due("18: by all", o.isSame(o.join(':', 2, 1), 2), true);
        due("18: with 0", o.size(o.join('&', 2, 0)), 0);
        due("18: times 0", o.size(o.join('*', 2, 0)), 0);
        due("18: and 0", o.isSame(o.join('+', 0, 2), 2), true);
        due("18: its own saturation", basis(o, o.join('~', 2, 2)), "000: 1.000");
        Renewed e = ring(2, 2, 'g');
        ideal(e, "1 400, 1 010");
        due("18: no kind first", of(() -> e.join('-', 5, 5)), ARGUMENT);
        due("18: no kind", of(() -> e.join('x', 0, 0)), ARGUMENT);
        due("18: no first one", of(() -> e.join('+', 1, 0)), INDEX);
        due("18: no second one", of(() -> e.join('+', 0, 1)), INDEX);
        due("18: refused", of(() -> e.join('*', 0, 0)), REFUSED);
        due("18: nothing has come", e.ideals(), 1);
        Renewed big = ring(7, 3, 'g');
        ideal(big, "1 400, 1 010, 2 001; 1 040, 3 111, 1 000");
        ideal(big, "1 400, 3 020, 1 001; 1 004, 3 110, 5 000");
        due("18: a meet of high degrees", of(() -> big.join('&', 0, 1)), REFUSED);
        int plane = ideal(big, "1 200; 1 040");
        int other = ideal(big, "1 200; 1 004");
        due("18: a square, and degree 8 beside it", of(() -> big.join('&', plane, other)), REFUSED);
        due("18: it is all", basis(big, big.join('~', 1, 0)), basis(big, big.join(':', 1, 0)));
    }

    private static void freed() {
        Renewed s = ring(5, 3, 'g');
        int a = ideal(s, "1 200, -1 011; 1 110, -1 002");
        due("19: without x", basis(s, s.without(a, 0)), "031: 1.031 4.004");
        due("19: without z", basis(s, s.without(a, 2)), "400: 1.400 4.130");
        int b = ideal(s, "1 010, 1 002");
        due("19: without x where there is none", s.isSame(s.without(b, 0), b), true);
        due("19: 0 without y", s.size(s.without(b, 1)), 0);
        int c = ideal(s, "1 100; 2 000");
        due("19: all", basis(s, s.without(c, 1)), "000: 1.000");
        s.ideal();
        due("19: 0", s.size(s.without(s.ideals() - 1, 1)), 0);
        due("19: no ideal before no letter", of(() -> s.without(-1, 3)), INDEX);
        due("19: no letter", of(() -> s.without(0, 3)), ARGUMENT);
        due("19: no letter -1", of(() -> s.without(0, -1)), ARGUMENT);
        Renewed t = ring(2, 2, 'g');
        ideal(t, "1 400, 1 010; 1 040, 1 100, 1 000");
        due("19: degree 16 is refused", of(() -> t.without(0, 0)), REFUSED);
        due("19: no z", of(() -> t.without(0, 2)), ARGUMENT);
        Renewed v = ring(3, 3, 'g');
        int eight = ideal(v, "1 020; 1 004, -1 100; 1 200");
        due("19: a square, and z to the power of 8 beside it", of(() -> v.without(eight, 0)), REFUSED);
        due("19: but without y", basis(v, v.without(eight, 1)), "200: 1.200; 004: 2.100 1.004");
        Renewed u = ring(7, 3, 'd');
        ideal(u, "1 400, 1 110, 2 001; 1 040, 3 111, 1 000");
        due("19: a curve of degree 16", of(() -> u.without(0, 0)), REFUSED);
        ideal(u, "1 100, 1 001");
        ideal(u, "1 110, 1 001; 1 200");
        u.join('*', 1, 2);
        due("19: a common divisor with the letter", u.size(u.without(3, 0)), 0);
        ideal(u, "1 010, 1 001");
        u.join('*', 2, 5);
        due("19: one without it", basis(u, u.without(6, 0)), "012: 1.012 1.003");
    }

    private static void counting() {
        Renewed s = ring(5, 3, 'g');
        int a = ideal(s, "1 200, -1 011; 1 110, -1 002");
        int zero = s.ideal();
        int all = ideal(s, "1 000");
        int points = ideal(s, "1 200; 1 030; 1 001");
        int mixed = ideal(s, "1 300, 1 010");
        due("20: graded", s.isGraded(a), true);
        due("20: 0 is", s.isGraded(zero), true);
        due("20: all is", s.isGraded(all), true);
        due("20: this is not", s.isGraded(mixed), false);
        due("20: no ideal", of(() -> s.isGraded(5)), INDEX);
        due("21: degree 0", s.standard(a, 0), 1);
        due("21: degree 1", s.standard(a, 1), 3);
        due("21: degree 40", s.standard(a, 40), 4);
        due("21: of 0", s.standard(zero, 40), 861);
        due("21: of all", s.standard(all, 0), 0);
        due("21: beyond", s.standard(points, 4), 0);
        due("21: the last ones", s.standard(points, 3), 1);
        due("21: no ideal first", of(() -> s.standard(5, 41)), INDEX);
        due("21: 41", of(() -> s.standard(a, 41)), ARGUMENT);
        due("21: -1", of(() -> s.standard(a, -1)), ARGUMENT);
        String words = "";
        for (int i = 0; i < 6; i++) {
            words += s.standardAt(points, i, 0) + "" + s.standardAt(points, i, 1) + s.standardAt(points, i, 2) + " ";
        }
        due("22: by rising words", words, "000 010 100 020 110 120 ");
        due("22: no more", of(() -> s.standardAt(points, 6, 0)), NONE);
        due("22: none at all", of(() -> s.standardAt(all, 0, 0)), NONE);
        due("22: no ideal first", of(() -> s.standardAt(5, 100, 3)), INDEX);
        due("22: 100", of(() -> s.standardAt(points, 100, 0)), ARGUMENT);
        due("22: -1", of(() -> s.standardAt(points, -1, 0)), ARGUMENT);
        due("22: no letter", of(() -> s.standardAt(points, 99, 3)), ARGUMENT);
        due("22: no letter -1", of(() -> s.standardAt(points, 0, -1)), ARGUMENT);
        int line = ideal(s, "1 100; 1 001");
        due("22: on a line", s.standardAt(line, 99, 1), 99);
        String g = "";
        for (int i = 4; i < 10; i++) {
            g += s.standardAt(zero, i, 0) + "" + s.standardAt(zero, i, 1) + s.standardAt(zero, i, 2) + " ";
        }
        due("22: in the order g", g, "002 011 101 020 110 200 ");
        Renewed d = ring(5, 3, 'd');
        d.ideal();
        String words2 = "";
        for (int i = 4; i < 10; i++) {
            words2 += d.standardAt(0, i, 0) + "" + d.standardAt(0, i, 1) + d.standardAt(0, i, 2) + " ";
        }
        due("22: in the order d", words2, "002 011 020 101 110 200 ");
        due("22: no z", of(() -> ring2().standardAt(0, 0, 2)), ARGUMENT);
    }

    private static Renewed ring2() {
        Renewed s = new Renewed();
        s.ideal();
        return s;
    }

    private static void values() {
        Renewed s = ring(5, 3, 'g');
        int a = ideal(s, "1 200, -1 011; 1 110, -1 002");
        int zero = s.ideal();
        int all = ideal(s, "1 000");
        int points = ideal(s, "1 200; 1 030; 1 001");
        String series = "";
        for (int i = 0; i <= 7; i++) {
            series += s.series(a, i) + " ";
        }
        due("23: of two quadrics", series, "1 0 -2 0 1 0 0 0 ");
        due("23: of 0", s.series(zero, 0) + " " + s.series(zero, 1) + " " + s.series(zero, 60), "1 0 0");
        due("23: of all", s.series(all, 0), 0);
        due("23: (1 - t)(1 - t^2)(1 - t^3)", s.series(points, 1) + " " + s.series(points, 4) + " "
            + s.series(points, 6), "-1 1 -1");
        due("23: no ideal first", of(() -> s.series(4, 61)), INDEX);
        due("23: 61", of(() -> s.series(0, 61)), ARGUMENT);
        due("23: -1", of(() -> s.series(0, -1)), ARGUMENT);
        due("24: 4 words of each degree", s.polynomial(a, 0), 4);
        due("24: of 0", s.polynomial(zero, 1000000), 500001500001L);
        due("24: of all", s.polynomial(all, 5), 0);
        due("24: of points", s.polynomial(points, 1), 0);
        int plane = ideal(s, "1 400");
        due("24: below 0", s.polynomial(plane, 0), -2);
        due("24: in the end", s.polynomial(plane, 1000000), 3999998);
        due("24: no ideal first", of(() -> s.polynomial(-1, -1)), INDEX);
        due("24: -1", of(() -> s.polynomial(0, -1)), ARGUMENT);
        due("24: 1000001", of(() -> s.polynomial(0, 1000001)), ARGUMENT);
        due("25: curve", s.dimension(a), 1);
        due("25: 0", s.dimension(zero), 3);
        due("25: all", s.dimension(all), -1);
        due("25: points", s.dimension(points), 0);
        due("25: plane", s.dimension(plane), 2);
        due("25: no ideal", of(() -> s.dimension(5)), INDEX);
        due("26: curve", s.multiplicity(a), 4);
        due("26: 0", s.multiplicity(zero), 1);
        due("26: all", s.multiplicity(all), 0);
        due("26: points", s.multiplicity(points), 6);
        due("26: plane", s.multiplicity(plane), 4);
        due("26: no ideal", of(() -> s.multiplicity(5)), INDEX);
        due("27: of two quadrics", s.roots(a), 9);
        due("27: of 0", s.roots(zero), 125);
        due("27: of all", s.roots(all), 0);
        due("27: one", s.roots(points), 1);
        int none = ideal(s, "1 200, -2 000");
        due("27: 2 is no square modulo 5", s.roots(none), 0);
        due("27: no ideal", of(() -> s.roots(6)), INDEX);
        Renewed two = ring(7, 2, 'g');
        two.ideal();
        due("27: two letters", two.roots(0), 49);
        due("26: two letters", two.multiplicity(0), 1);
        due("24: two letters", two.polynomial(0, 10), 11);
        ideal(two, "1 110");
        due("26: two lines", two.multiplicity(1), 2);
        due("27: two lines", two.roots(1), 13);
    }

    private static String table(Renewed s, int ideal, int letters) {
        StringBuilder b = new StringBuilder();
        for (int i = 0; i <= letters; i++) {
            for (int j = 0; j <= 18; j++) {
                if (s.table(ideal, i, j) != 0) {
                    b.append(i).append(',').append(j).append('=').append(s.table(ideal, i, j)).append(' ');
                }
            }
        }
        return b.toString();
    }

    private static void tables() {
        Renewed s = ring(3, 3, 'g');
        int quadrics = ideal(s, "1 200, -1 011; 1 110, -1 002");
        int zero = s.ideal();
        int all = ideal(s, "1 000");
        int words = ideal(s, "1 110; 1 011; 1 101");
        int mixed = ideal(s, "1 200, 1 010");
        int twisted = ideal(s, "1 400; 1 040; 1 004");
        due("28: two quadrics", table(s, quadrics, 3), "0,0=1 1,2=2 2,4=1 ");
        due("28: 0", table(s, zero, 3), "0,0=1 ");
        due("28: all", table(s, all, 3), "");
        due("28: three words", table(s, words, 3), "0,0=1 1,2=3 2,3=2 ");
        due("28: three powers", table(s, twisted, 3), "0,0=1 1,4=3 2,8=3 3,12=1 ");
        due("28: no ideal first", of(() -> s.table(6, 4, 19)), INDEX);
        due("28: out of range before not graded", of(() -> s.table(mixed, 4, 0)), ARGUMENT);
        due("28: j 19", of(() -> s.table(zero, 0, 19)), ARGUMENT);
        due("28: j -1", of(() -> s.table(zero, 0, -1)), ARGUMENT);
        due("28: i -1", of(() -> s.table(zero, -1, 0)), ARGUMENT);
        due("28: not graded", of(() -> s.table(mixed, 0, 0)), REFUSED);
        due("29: lengths", s.length(quadrics) + " " + s.length(zero) + " " + s.length(all) + " " + s.length(words) + " "
            + s.length(twisted), "2 0 -1 2 3");
        due("30: regularities", s.regularity(quadrics) + " " + s.regularity(zero) + " " + s.regularity(all) + " "
            + s.regularity(words) + " " + s.regularity(twisted), "2 0 -1 1 9");
        due("31: depths", s.depth(quadrics) + " " + s.depth(zero) + " " + s.depth(all) + " " + s.depth(words) + " "
            + s.depth(twisted), "1 3 -1 1 0");
        due("29: not graded", of(() -> s.length(mixed)), REFUSED);
        due("30: not graded", of(() -> s.regularity(mixed)), REFUSED);
        due("31: not graded", of(() -> s.depth(mixed)), REFUSED);
        due("29: no ideal", of(() -> s.length(6)), INDEX);
        due("30: no ideal", of(() -> s.regularity(-1)), INDEX);
        due("31: no ideal", of(() -> s.depth(12)), INDEX);
        Renewed two = ring(3, 2, 'g');
        ideal(two, "1 100; 1 010");
        due("28: i 3 with two letters", of(() -> two.table(0, 3, 0)), ARGUMENT);
        due("28: two letters", table(two, 0, 2), "0,0=1 1,1=2 2,2=1 ");
        due("31: two letters", two.depth(0), 0);
        two.begin(3, 2, 'g');
        ideal(two, "1 200");
        due("28: a new ring has new tables", table(two, 0, 2), "0,0=1 1,2=1 ");
    }

    private static String components(Renewed s, int ideal, int letters) {
        StringBuilder b = new StringBuilder();
        for (int i = 0; i < s.components(ideal); i++) {
            for (int letter = 0; letter < letters; letter++) {
                b.append(s.componentAt(ideal, i, letter));
            }
            b.append(' ');
        }
        return b.toString();
    }

    private static String primes(Renewed s, int ideal) {
        StringBuilder b = new StringBuilder();
        for (int i = 0; i < s.primes(ideal); i++) {
            b.append(s.primeAt(ideal, i)).append(' ');
        }
        return b.toString();
    }

    private static void ofWords() {
        Renewed s = ring(2, 3, 'd');
        int a = ideal(s, "1 210; 1 021; 1 102");
        int zero = s.ideal();
        int all = ideal(s, "1 000");
        int mixed = ideal(s, "1 200, 1 010");
        int powers = ideal(s, "1 400; 1 110");
        due("32: is", s.isOfWords(a), true);
        due("32: 0 is", s.isOfWords(zero), true);
        due("32: all is", s.isOfWords(all), true);
        due("32: is not", s.isOfWords(mixed), false);
        due("32: no ideal", of(() -> s.isOfWords(5)), INDEX);
        due("33 34: components", components(s, a, 3), "012 120 201 222 ");
        due("33 34: x to the fourth and xy", components(s, powers, 3), "100 410 ");
        due("33 34: of 0", components(s, zero, 3), "000 ");
        due("33: of all", s.components(all), 0);
        due("33: not of words", of(() -> s.components(mixed)), REFUSED);
        due("33: no ideal", of(() -> s.components(5)), INDEX);
        due("34: no ideal first", of(() -> s.componentAt(5, 9, 3)), INDEX);
        due("34: not of words next", of(() -> s.componentAt(mixed, 9, 3)), REFUSED);
        due("34: no letter next", of(() -> s.componentAt(a, 4, 3)), ARGUMENT);
        due("34: no letter -1", of(() -> s.componentAt(a, 0, -1)), ARGUMENT);
        due("34: not so many", of(() -> s.componentAt(a, 4, 0)), NONE);
        due("34: -1", of(() -> s.componentAt(a, -1, 0)), NONE);
        due("34: of all", of(() -> s.componentAt(all, 0, 0)), NONE);
        due("35 36: primes", primes(s, a), "3 5 6 7 ");
        due("35 36: of powers", primes(s, powers), "1 3 ");
        due("35 36: of 0", primes(s, zero), "0 ");
        due("35: of all", s.primes(all), 0);
        due("35: not of words", of(() -> s.primes(mixed)), REFUSED);
        due("35: no ideal", of(() -> s.primes(-1)), INDEX);
        due("36: not of words", of(() -> s.primeAt(mixed, 9)), REFUSED);
        due("36: no ideal", of(() -> s.primeAt(9, 9)), INDEX);
        due("36: not so many", of(() -> s.primeAt(a, 4)), NONE);
        due("36: -1", of(() -> s.primeAt(a, -1)), NONE);
        due("37: radical", basis(s, s.radical(a)), "011: 1.011; 101: 1.101; 110: 1.110");
        due("37: of 0", s.size(s.radical(zero)), 0);
        due("37: of all", basis(s, s.radical(all)), "000: 1.000");
        due("37: of powers", basis(s, s.radical(powers)), "100: 1.100");
        due("37: not of words", of(() -> s.radical(mixed)), REFUSED);
        due("37: no ideal", of(() -> s.radical(9)), INDEX);
        Renewed two = ring(2, 2, 'g');
        ideal(two, "1 220; 1 130");
        due("33 34: two letters", components(two, 0, 2), "02 10 23 ");
        due("34: no z", of(() -> two.componentAt(0, 0, 2)), ARGUMENT);
    }

    private static String holes(Renewed s) {
        StringBuilder b = new StringBuilder();
        for (int d = -1; d <= 5; d++) {
            b.append(s.holes(d)).append(' ');
        }
        return b.toString();
    }

    private static void faces() {
        Renewed s = new Renewed();
        due("39: none", s.clear(), 0);
        due("42: nothing has no holes", holes(s), "0 0 0 0 0 0 0 ");
        due("40: not even the empty face", s.faces(-1), 0);
        due("41: no facet", of(() -> s.facetAt(0)), NONE);
        due("38: 0", of(() -> s.put(0)), ARGUMENT);
        due("38: 64", of(() -> s.put(64)), ARGUMENT);
        due("38: -1", of(() -> s.put(-1)), ARGUMENT);
        due("38: one", s.put(7), 1);
        due("38: another one", s.put(24), 2);
        due("38: what is within", s.put(5), 2);
        due("38: what is around", s.put(56), 2);
        due("41: by rising numbers", s.facetAt(0) + " " + s.facetAt(1), "7 56");
        due("41: not so many", of(() -> s.facetAt(2)), NONE);
        due("41: -1", of(() -> s.facetAt(-1)), NONE);
        due("40: empty", s.faces(-1), 1);
        due("40: points", s.faces(0), 6);
        due("40: lines", s.faces(1), 6);
        due("40: planes", s.faces(2), 2);
        due("40: no more", s.faces(3) + s.faces(4) + s.faces(5), 0);
        due("40: -2", of(() -> s.faces(-2)), ARGUMENT);
        due("40: 6", of(() -> s.faces(6)), ARGUMENT);
        due("42: two parts", holes(s), "0 1 0 0 0 0 0 ");
        due("42: -2", of(() -> s.holes(-2)), ARGUMENT);
        due("42: 6", of(() -> s.holes(6)), ARGUMENT);
        due("39: how many", s.clear(), 15);
        s.put(63);
        due("38 40: all", s.faces(5), 1);
        due("42: a ball", holes(s), "0 0 0 0 0 0 0 ");
        due("43: the dual of all sets", s.dual(), 0);
        due("43: and back", s.dual(), 64);
        s.clear();
        for (int point = 0; point < 6; point++) {
            s.put(63 - (1 << point));
        }
        due("42: a sphere", holes(s), "0 0 0 0 0 1 0 ");
        due("43: the dual of a sphere is the empty face", s.dual(), 1);
        due("42: it is a hole", holes(s), "1 0 0 0 0 0 0 ");
        due("41: it is a facet", s.facetAt(0), 0);
        due("44: it can be shelled", s.canBeShelled(), true);
        due("38: the empty face is no facet then", s.put(1), 1);

        // The projective plane on 6 points has holes modulo 2 alone.
        Renewed p = new Renewed();
        for (int facet : projective()) {
            p.put(facet);
        }
        due("42: modulo 2", holes(p), "0 0 1 1 0 0 0 ");
        p.begin(3, 2, 'g');
        due("42: modulo 3", holes(p), "0 0 0 0 0 0 0 ");
        due("44: more than 8 facets", of(p::canBeShelled), REFUSED);
        due("43: it is its own dual's size", p.dual(), 32);
    }

    /** The ten triangles of the projective plane on six points. */
    private static int[] projective() {
        String[] triangles = {"012", "023", "034", "045", "015", "124", "235", "134", "245", "135"};
        int[] sets = new int[triangles.length];
        for (int i = 0; i < sets.length; i++) {
            for (char point : triangles[i].toCharArray()) {
                sets[i] |= 1 << point - '0';
            }
        }
        return sets;
    }

    private static void shelling() {
        Renewed s = new Renewed();
        due("44: no face", of(s::canBeShelled), REFUSED);
        s.put(7);
        due("44: one facet", s.canBeShelled(), true);
        s.put(56);
        due("44: two apart", s.canBeShelled(), false);
        s.clear();
        s.put(7);
        s.put(28);
        due("44: two at a point", s.canBeShelled(), false);
        s.put(14);
        due("44: one between", s.canBeShelled(), true);
        s.put(33);
        due("44: unlike dimensions", s.canBeShelled(), false);
        s.clear();
        for (int point = 0; point < 6; point++) {
            s.put(1 << point);
        }
        due("44: points", s.canBeShelled(), true);
        s.clear();
        for (int set : new int[] {7, 11, 13, 14, 19, 21, 22}) {
            s.put(set);
        }
        due("44: seven facets", s.canBeShelled(), true);
        s.put(56);
        due("44: eight facets, one at a point", s.canBeShelled(), false);
        s.put(35);
        due("44: nine facets", of(s::canBeShelled), REFUSED);
    }

    private static void sums() {
        Renewed s = new Renewed();
        due("45: 3, 5, 7 to 100", s.ways(3, 5, 7, 100), 55);
        due("45: like numbers", s.ways(1, 1, 1, 1000000), 500001500001L);
        due("45: not reached", s.ways(6, 10, 15, 29), 0);
        due("45: 0", s.ways(1000, 1000, 1000, 0), 1);
        due("45: by turns", s.ways(6, 24, 39, 15996), 68804);
        int[][] wrongOnes = {{0, 1, 1, 1}, {1, 0, 1, 1}, {1, 1, 0, 1}, {1001, 1, 1, 1}, {1, 1001, 1, 1},
            {1, 1, 1001, 1}, {1, 1, 1, -1}, {1, 1, 1, 1000001}, {-1, 1, 1, 1}, {1, 1, 1, Integer.MIN_VALUE}};
        for (int[] w : wrongOnes) {
            due("45: out of range", of(() -> s.ways(w[0], w[1], w[2], w[3])), ARGUMENT);
        }
        int[] numbers = {1, 2, 3, 4, 6, 9, 10, 15, 30, 100, 999, 1000};
        for (int one : numbers) {
            for (int two : numbers) {
                for (int three : numbers) {
                    for (int sum : new int[] {1, 60, 359, 3600}) {
                        due("45: " + one + " " + two + " " + three + " to " + sum, s.ways(one, two, three, sum),
                            counted(one, two, three, sum));
                    }
                }
            }
        }
    }

    private static long counted(int one, int two, int three, int sum) {
        long[] ways = new long[sum + 1];
        ways[0] = 1;
        for (int number : new int[] {one, two, three}) {
            for (int i = number; i <= sum; i++) {
                ways[i] += ways[i - number];
            }
        }
        return ways[sum];
    }

    private static void shares() {
        Renewed s = ring(5, 2, 'g');
        due("46: none", of(s::gradedShare), NUMBERS);
        due("47: none", of(s::meanSize), NUMBERS);
        due("48: at first", s.checksum(), 7);
        due("49: nothing is sound", s.isSound(), true);
        ideal(s, "1 200, 1 010");
        due("46: none of one", s.gradedShare(), 0.0f);
        ideal(s, "1 200; 1 020");
        s.ideal();
        due("46: two of three", s.gradedShare(), 2.0f / 3.0f);
        due("47: three in three", s.meanSize(), 1.0);
        ideal(s, "3 100, 1 010");
        due("47: four in four", s.meanSize(), 1.0);
        due("46: three of four", s.gradedShare(), 0.75f);
        ideal(s, "1 000");
        ideal(s, "1 200; 1 010");
        due("47: seven in six", s.meanSize(), 7.0 / 6.0);
        due("49: all is sound", s.isSound(), true);
        Renewed t = ring(7, 3, 'g');
        ideal(t, "2 100, 1 001; 1 020");
        long sum = 31 * 7 + 1 + 11;
        sum = 31 * sum + 4 + 23;
        sum = 31 * sum + 1 + 34;
        due("48: from the leading word on", t.checksum(), sum);
        t.ideal();
        due("48: 0 counts nothing", t.checksum(), sum);
        ideal(t, "1 000");
        due("48: 1", t.checksum(), 31 * sum + 1);
        for (char order : new char[] {'g', 'd'}) {
            Renewed u = ring(3, 3, order);
            ideal(u, "1 200, -1 011; 1 110, -1 002");
            ideal(u, "1 310; 1 022; 1 103; 1 040");
            ideal(u, "1 310, 1 000; 1 022, 2 100");
            u.join('+', 0, 1);
            due("49: sound in " + order, u.isSound(), true);
        }
    }

    private static void full() {
        Renewed s = ring(2, 2, 'g');
        for (int i = 0; i < 12; i++) {
            due("7: the number", i % 2 == 0 ? ideal(s, "1 400, 1 010") : ideal(s, "1 220; 1 130"), i);
        }
        list(s, "1 100");
        due("7: there are 12", of(s::ideal), STATE);
        due("7: the list stays", s.dropList(), 1);
        due("18: there are 12", of(() -> s.join('+', 0, 1)), STATE);
        due("18: refused before that", of(() -> s.join('*', 0, 0)), REFUSED);
        due("19: there are 12", of(() -> s.without(1, 0)), STATE);
        due("37: there are 12", of(() -> s.radical(1)), STATE);
        due("37: not of words before that", of(() -> s.radical(0)), REFUSED);
        due("8: twelve", s.ideals(), 12);
        due("2: twelve", s.begin(2, 2, 'g'), 12);
        due("7: from 0 again", s.ideal(), 0);
        Renewed t = ring(2, 3, 'g');
        for (int i = 0; i < 12; i++) {
            t.ideal();
        }
        list(t, "1 400; 1 310, 1 040");
        due("7: refused before that there are 12", of(t::ideal), REFUSED);
        due("7: the list stays", t.dropList(), 2);
    }

    /** Where the only ideal is neither graded nor of words, a missing one is told as missing first. */
    private static void orders() {
        Renewed s = ring(3, 2, 'g');
        ideal(s, "1 400, 1 010; 1 040, 1 100, 1 000");
        due("28: missing first", of(() -> s.table(1, 0, 0)), INDEX);
        due("29: missing first", of(() -> s.length(1)), INDEX);
        due("30: missing first", of(() -> s.regularity(1)), INDEX);
        due("31: missing first", of(() -> s.depth(-1)), INDEX);
        due("33: missing first", of(() -> s.components(1)), INDEX);
        due("34: missing first", of(() -> s.componentAt(1, 0, 0)), INDEX);
        due("35: missing first", of(() -> s.primes(1)), INDEX);
        due("36: missing first", of(() -> s.primeAt(1, 0)), INDEX);
        due("37: missing first", of(() -> s.radical(1)), INDEX);
        for (int i = 1; i < 12; i++) {
            s.ideal();
        }
        due("19: refused before that there are 12", of(() -> s.without(0, 0)), REFUSED);
        due("19: no letter before that", of(() -> s.without(0, 2)), ARGUMENT);
        due("18: no kind before that", of(() -> s.join('?', 0, 0)), ARGUMENT);
        due("18: missing before that", of(() -> s.join('*', 0, 12)), INDEX);
    }

    private static void unchanged() {
        Renewed s = ring(3, 3, 'g');
        ideal(s, "1 200, 2 011; 1 110");
        s.term(1, 1, 0, 0);
        s.push();
        s.term(2, 0, 1, 0);
        s.put(7);
        long sum = s.checksum();
        of(() -> s.begin(3, 3, 'x'));
        of(() -> s.term(1, 9, 0, 0));
        of(() -> s.join('*', 0, 3));
        of(() -> s.without(0, 3));
        of(() -> s.put(99));
        of(() -> s.rest(1));
        of(() -> s.radical(0));
        due("no throwing call changes the ideals", s.checksum(), sum);
        due("no throwing call changes the polynomial", s.wipe(), 1);
        due("no throwing call changes the list", s.dropList(), 1);
        due("no throwing call changes the faces", s.clear(), 8);
    }
}
