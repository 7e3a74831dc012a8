import java.util.ArrayList;
import java.util.Arrays;
import java.util.HashMap;
import java.util.List;
import java.util.Map;
import java.util.Random;
import java.util.TreeSet;
import java.util.function.Function;
import java.util.function.Supplier;

/**
 * What the document says of ideals, against plain linear algebra by its words (src/test/help/Plain.java): what a list
 * generates, sums, products, what is in common, quotients, saturations, what is without a letter, rests, radicals,
 * standard words, series, roots, tables and components; over each prime, with 2 and 3 letters, in both orders, graded
 * and not.
 */
public final class IdealsTest {
    private static final char[] KINDS = {'+', '*', '&', ':', '~'};
    private static final int[] PRIMES = {2, 3, 5, 7};
    private static final int LEAST = 8;
    private static final int MOST = 12;
    private static int asked;
    private static int untold;

    private final int prime;
    private final int letters;
    private final char order;
    private final int shape;
    private final Random random;
    private final Renewed s;
    private final Map<Integer, Plain> plains = new HashMap<>();
    /** For each ideal its basis as plain linear algebra tells it, null if that is beyond it. */
    private final List<String> bases = new ArrayList<>();

    private IdealsTest(int run) {
        random = new Random(run);
        prime = PRIMES[run % 4];
        letters = 2 + run / 4 % 2;
        order = run / 8 % 2 == 0 ? 'g' : 'd';
        shape = run / 16 % 3;
        boolean isFirst = prime == 2 && letters == 2 && order == 'g';
        s = isFirst ? new Renewed() : Calls.ring(prime, letters, order);
    }

    public static void main(String[] arguments) {
        int start = arguments.length > 0 ? Integer.parseInt(arguments[0]) : 0;
        int runs = arguments.length > 1 ? Integer.parseInt(arguments[1]) : 96;
        for (int run = start; run < start + runs; run++) {
            IdealsTest t = new IdealsTest(run);
            Calls.test("run " + run + ", modulo " + t.prime + ", " + t.letters + " letters, " + t.order, t::run);
        }
        System.out.println(asked + " ideals by plain linear algebra, " + untold + " of them beyond it");
        Calls.test("most of them are not beyond it", () -> Calls.due(untold * 20 < asked, true));
        Calls.end();
    }

    private void run() {
        for (int i = 0; i < 3; i++) {
            String list = list();
            made("7: the ideal of " + list, () -> Calls.ideal(s, list), p -> p.generated(p.rows(list)));
            s.dropList();
        }
        for (int i = 0; i < 6 && s.ideals() > 0; i++) {
            int one = random.nextInt(s.ideals());
            int other = random.nextInt(s.ideals());
            if (bases.get(one) != null && bases.get(other) != null) {
                if (i % 3 == 2) {
                    freed(one, random.nextInt(letters));
                } else {
                    joined(KINDS[random.nextInt(KINDS.length)], one, other);
                }
            }
        }
        for (int i = 0; i < s.ideals(); i++) {
            if (bases.get(i) != null) {
                looked(i);
            }
        }
    }

    private Plain plain(int most) {
        return plains.computeIfAbsent(most, m -> new Plain(prime, letters, order, m));
    }

    // What is given

    /** Some polynomials: graded ones, any ones, or graded ones and words. */
    private String list() {
        StringBuilder b = new StringBuilder();
        int number = 1 + random.nextInt(3);
        for (int i = 0; i < number; i++) {
            int degree = 1 + random.nextInt(letters == 2 ? 4 : 3);
            b.append(i == 0 ? "" : "; ").append(polynomial(degree, shape == 2 && i > 0 ? 1 : 1 + random.nextInt(3)));
        }
        return b.toString();
    }

    private String polynomial(int degree, int number) {
        StringBuilder b = new StringBuilder();
        for (int i = 0; i < number; i++) {
            int left = shape == 1 && i > 0 ? random.nextInt(degree + 1) : degree;
            int x = random.nextInt(left + 1);
            int y = letters == 2 ? left - x : random.nextInt(left - x + 1);
            int factor = random.nextInt(9) == 0 ? prime : 1 + random.nextInt(prime - 1);
            b.append(i == 0 ? "" : ", ").append(factor).append(' ').append(x).append(y).append(left - x - y);
        }
        return b.toString();
    }

    // What is made

    /** Compares an ideal that is made with what is found up to some degree, until more degrees tell nothing more. */
    private void made(String what, Supplier<Object> call, Function<Plain, Plain.Space> maker) {
        Object made = Calls.of(call);
        String got = made.equals(Calls.REFUSED) ? "refused" : Calls.basis(s, (Integer) made, letters, order);
        asked++;
        int same = 0;
        Plain.Space space = null;
        for (int most = LEAST; most <= MOST && same < 2; most += 2) {
            space = maker.apply(plain(most));
            same = space != null && got.equals(space.basis()) ? same + 1 : 0;
        }
        boolean isTold = same > 0;
        if (!isTold) {
            boolean mayBeMore = space == null || (got.equals("refused") ? space.basis().isEmpty()
                : space.isInside(plain(MOST).generated(plain(MOST).rows(listed(got)))));
            Calls.due(what, mayBeMore ? "beyond" : got, mayBeMore ? "beyond" : space.basis());
            untold++;
        }
        Calls.due(what, same > 0, isTold);
        if (!got.equals("refused")) {
            Calls.due(what + ": its number", made, bases.size());
            bases.add(isTold ? got : null);
        }
    }

    /** A basis, in the form in which a list is given. */
    private static String listed(String basis) {
        return basis.replace(" ", ", ").replace(";, ", "; ").replace('.', ' ');
    }

    private List<int[]> rows(Plain plain, int ideal) {
        return plain.rows(listed(bases.get(ideal)));
    }

    private Plain.Space space(Plain plain, int ideal) {
        return plain.generated(rows(plain, ideal));
    }

    private void joined(char kind, int one, int other) {
        String what = "18: " + bases.get(one) + " " + kind + " " + bases.get(other);
        made(what, () -> s.join(kind, one, other), p -> {
            switch (kind) {
                case '+': {
                    List<int[]> rows = rows(p, one);
                    rows.addAll(rows(p, other));
                    return p.generated(rows);
                }
                case '*': {
                    List<int[]> rows = new ArrayList<>();
                    for (int[] a : rows(p, one)) {
                        for (int[] b : rows(p, other)) {
                            int[] product = p.product(a, b);
                            if (product != null) {
                                rows.add(product);
                            }
                        }
                    }
                    return p.generated(rows);
                }
                case '&':
                    return p.meet(space(p, one), space(p, other));
                case ':':
                    return p.quotient(space(p, one), rows(p, other));
                default:
                    return p.saturation(space(p, one), rows(p, other));
            }
        });
    }

    private void freed(int ideal, int letter) {
        made("19: " + bases.get(ideal) + " without " + letter, () -> s.without(ideal, letter),
            p -> p.without(space(p, ideal), letter));
    }

    // What is looked at

    private void looked(int ideal) {
        Plain plain = plain(LEAST);
        Plain.Space space = space(plain, ideal);
        counted(plain, space, ideal);
        for (int i = 0; i < 4; i++) {
            String polynomial = polynomial(1 + random.nextInt(4), 1 + random.nextInt(4));
            belongs(plain, space, ideal, polynomial);
        }
        inRadical(ideal, polynomial(1, 1 + random.nextInt(2)));
        inRadical(ideal, polynomial(2, 1 + random.nextInt(3)));
        for (int other = 0; other < s.ideals(); other++) {
            if (bases.get(other) != null) {
                Plain.Space second = space(plain, other);
                String what = bases.get(ideal) + " and " + bases.get(other);
                Calls.due("17: " + what, s.isWithin(ideal, other), space.isInside(second));
                Calls.due("16: " + what, s.isSame(ideal, other), space.isInside(second) && second.isInside(space));
            }
        }
        boolean isGraded = true;
        boolean isOfWords = true;
        for (String polynomial : bases.get(ideal).isEmpty() ? new String[0] : bases.get(ideal).split("; ")) {
            String[] terms = polynomial.split(" ");
            isOfWords &= terms.length == 1;
            for (String term : terms) {
                isGraded &= degree(term) == degree(terms[0]);
            }
        }
        Calls.due("20: " + bases.get(ideal), s.isGraded(ideal), isGraded);
        Calls.due("32: " + bases.get(ideal), s.isOfWords(ideal), isOfWords);
        if (isOfWords) {
            components(ideal);
            radical(ideal);
        }
        if (isGraded) {
            table(plain, space, ideal);
        }
    }

    private static boolean isIn(int[][] leads, int[] word) {
        return !Calls.isStandard(leads, word[0], word[1], word[2]);
    }

    /** All words with powers of at most 7, one more than any power in a basis. */
    private List<int[]> box() {
        List<int[]> box = new ArrayList<>();
        for (int code = 0; code < 512; code++) {
            if (letters > 2 || code < 64) {
                box.add(new int[] {code % 8, code / 8 % 8, code / 64});
            }
        }
        return box;
    }

    /** What is in common of the components is the ideal, and is not if one is left out; they rise, and so do the primes. */
    private void components(int ideal) {
        String what = bases.get(ideal);
        int[][] leads = Calls.leadsOf(s, ideal, letters);
        int[][] powers = new int[s.components(ideal)][3];
        TreeSet<Integer> sets = new TreeSet<>();
        for (int i = 0; i < powers.length; i++) {
            int set = 0;
            for (int letter = 0; letter < letters; letter++) {
                powers[i][letter] = s.componentAt(ideal, i, letter);
                set += powers[i][letter] > 0 ? 1 << letter : 0;
            }
            sets.add(set);
            Calls.due("34: rising, " + what, i == 0 || Arrays.compare(powers[i - 1], powers[i]) < 0, true);
        }
        boolean[] isNeeded = new boolean[powers.length];
        for (int[] word : box()) {
            int without = 0;
            int last = 0;
            for (int i = 0; i < powers.length; i++) {
                if (!isAround(powers[i], word)) {
                    without++;
                    last = i;
                }
            }
            Calls.due("33: " + what, without == 0, isIn(leads, word));
            if (without == 1) {
                isNeeded[last] = true;
            }
        }
        for (boolean needed : isNeeded) {
            Calls.due("33: none can be left out of " + what, needed, true);
        }
        List<Integer> primes = new ArrayList<>();
        for (int i = 0; i < s.primes(ideal); i++) {
            primes.add(s.primeAt(ideal, i));
        }
        Calls.due("35, 36: " + what, primes, new ArrayList<>(sets));
    }

    private static boolean isAround(int[] powers, int[] word) {
        boolean isAround = false;
        for (int letter = 0; letter < 3; letter++) {
            isAround |= powers[letter] > 0 && word[letter] >= powers[letter];
        }
        return isAround;
    }

    /** A word is in the radical if a power of it is in the ideal: the sixth one, if any. */
    private void radical(int ideal) {
        if (s.ideals() >= 12) {
            return;
        }
        int[][] leads = Calls.leadsOf(s, ideal, letters);
        int radical = s.radical(ideal);
        bases.add(null);
        int[][] made = Calls.leadsOf(s, radical, letters);
        for (int[] word : box()) {
            Calls.due("37: " + bases.get(ideal), isIn(made, word), isIn(leads, new int[] {6 * word[0], 6 * word[1], 6 * word[2]}));
        }
        Calls.due("37: of words, " + bases.get(ideal), s.isOfWords(radical), true);
    }

    private static int degree(String term) {
        return term.charAt(2) + term.charAt(3) + term.charAt(4) - 3 * '0';
    }

    private void counted(Plain plain, Plain.Space space, int ideal) {
        String what = bases.get(ideal);
        int[] signs = letters == 2 ? new int[] {1, -2, 1} : new int[] {1, -3, 3, -1};
        for (int degree = 0; degree <= LEAST; degree++) {
            Calls.due("21: " + what, s.standard(ideal, degree), space.standard(degree));
            int sum = 0;
            for (int k = 0; k < signs.length && k <= degree; k++) {
                sum += signs[k] * space.standard(degree - k);
            }
            Calls.due("23: " + what, s.series(ideal, degree), sum);
        }
        int index = 0;
        for (int column = plain.words.size() - 1; column >= 0 && index < 30; column--) {
            if (space.rows[column] == null) {
                for (int letter = 0; letter < letters; letter++) {
                    Calls.due("22: " + what, s.standardAt(ideal, index, letter), plain.words.get(column)[letter]);
                }
                index++;
            }
        }
        Calls.due("27: " + what, s.roots(ideal), roots(plain.rows(listed(what)), plain));
        inTheEnd(plain, space, ideal);
    }

    /** How many words of a degree are not divided by any of the leading words. */
    private int standard(List<int[]> leads, int degree) {
        int number = 0;
        for (int x = 0; x <= degree; x++) {
            for (int y = letters == 2 ? degree - x : 0; x + y <= degree; y++) {
                boolean isStandard = true;
                for (int[] w : leads) {
                    isStandard &= w[0] > x || w[1] > y || w[2] > degree - x - y;
                }
                number += isStandard ? 1 : 0;
            }
        }
        return number;
    }

    private void inTheEnd(Plain plain, Plain.Space space, int ideal) {
        String what = bases.get(ideal);
        List<int[]> leads = new ArrayList<>();
        for (int column : space.least()) {
            leads.add(plain.words.get(column));
        }
        StringBuilder told = new StringBuilder();
        for (int[] w : leads) {
            told.append(told.length() == 0 ? "" : " ").append(w[0]).append(w[1]).append(w[2]);
        }
        Calls.due("10: " + what, Calls.leads(s, ideal, letters), told);
        for (int degree : new int[] {20, 23, 29, 100}) {
            Calls.due("24: " + what, s.polynomial(ideal, degree), standard(leads, degree));
        }
        long[] values = new long[20];
        for (int degree = 0; degree < values.length; degree++) {
            values[degree] = s.polynomial(ideal, degree);
            if (degree > 2) {
                Calls.due("24: a third difference of " + what, values[degree] - 3 * values[degree - 1]
                    + 3 * values[degree - 2] - values[degree - 3], 0);
            }
        }
        int dimension = -1;
        for (int set = 0; set < 1 << letters; set++) {
            int letters = set;
            boolean isFree = leads.stream().noneMatch(w -> (w[0] == 0 || (letters & 1) != 0)
                && (w[1] == 0 || (letters & 2) != 0) && (w[2] == 0 || (letters & 4) != 0));
            dimension = isFree ? Math.max(dimension, Integer.bitCount(set)) : dimension;
        }
        Calls.due("25: " + what, s.dimension(ideal), dimension);
        long multiplicity = values[10];
        if (dimension == 0) {
            for (int degree = 0; degree <= 18; degree++) {
                multiplicity += standard(leads, degree);
            }
        } else if (dimension == 2) {
            multiplicity = values[11] - values[10];
        } else if (dimension == 3) {
            multiplicity = values[12] - 2 * values[11] + values[10];
        }
        Calls.due("26: " + what, s.multiplicity(ideal), multiplicity);
    }

    private int roots(List<int[]> rows, Plain plain) {
        int roots = 0;
        for (int point = 0; point < prime * prime * (letters == 2 ? 1 : prime); point++) {
            int[] at = {point % prime, point / prime % prime, point / prime / prime};
            boolean isRoot = true;
            for (int[] row : rows) {
                int sum = 0;
                for (int column = 0; column < row.length; column++) {
                    int value = row[column];
                    for (int letter = 0; letter < 3; letter++) {
                        for (int k = 0; k < plain.words.get(column)[letter]; k++) {
                            value = value * at[letter] % prime;
                        }
                    }
                    sum += value;
                }
                isRoot &= sum % prime == 0;
            }
            roots += isRoot ? 1 : 0;
        }
        return roots;
    }

    private void belongs(Plain plain, Plain.Space space, int ideal, String polynomial) {
        String what = polynomial + " and " + bases.get(ideal);
        int[] row = plain.row(polynomial);
        s.wipe();
        Calls.poly(s, polynomial);
        Calls.due("13: " + what, s.has(ideal), space.has(row));
        int[] rest = space.rest(row);
        int words = 0;
        for (int number : rest) {
            words += number == 0 ? 0 : 1;
        }
        Calls.due("14: " + what, s.rest(ideal), words);
        for (int column = 0; column < rest.length; column++) {
            int[] w = plain.words.get(column);
            if (rest[column] != 0 && Plain.degree(w) <= 4) {
                words--;
                s.term(-rest[column], w[0], w[1], w[2]);
            }
        }
        Calls.due("14: no word of more than 4 in the rest of " + what, words, 0);
        Calls.due("14: what is left without the rest of " + what, s.wipe(), 0);
    }

    /** Some power of it is in the ideal: looked for as far as that can be told. */
    private void inRadical(int ideal, String polynomial) {
        String what = "15: " + polynomial + " and " + bases.get(ideal);
        Plain plain = plain(MOST);
        Plain.Space space = space(plain, ideal);
        int[] row = plain.row(polynomial);
        int[] power = row;
        boolean isFound = false;
        for (int k = 1; k <= MOST && power != null && !isFound; k++) {
            isFound = space.has(power);
            power = plain.product(power, row);
        }
        s.wipe();
        Calls.poly(s, polynomial);
        boolean got = s.inRadical(ideal);
        asked++;
        if (got && !isFound) {
            untold++;
        } else {
            Calls.due(what, got, isFound);
        }
    }

    private void table(Plain plain, Plain.Space space, int ideal) {
        int length = -1;
        int regularity = -1;
        for (int i = 0; i <= letters; i++) {
            for (int j = 0; j <= 18; j++) {
                int number = s.table(ideal, i, j);
                if (j < LEAST) {
                    Calls.due("28: " + i + " " + j + " of " + bases.get(ideal), number, plain.table(space, i, j));
                }
                length = number == 0 ? length : i;
                regularity = number == 0 ? regularity : Math.max(regularity, j - i);
            }
        }
        Calls.due("29: " + bases.get(ideal), s.length(ideal), length);
        Calls.due("30: " + bases.get(ideal), s.regularity(ideal), regularity);
        Calls.due("31: " + bases.get(ideal), s.depth(ideal), length < 0 ? -1 : letters - length);
    }
}
