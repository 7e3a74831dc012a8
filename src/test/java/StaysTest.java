import java.util.Arrays;
import java.util.LinkedHashMap;
import java.util.Map;
import java.util.function.Consumer;
import java.util.function.Function;

/**
 * Each call changes what its promise tells, and nothing else, and one that throws changes nothing: neither the
 * polynomial, nor the list, the ideals, the ring or the faces. Each part is told of an object of its own, after one
 * call alone, and what is due of it is written down.
 */
public final class StaysTest {
    private static final int PRIME = 5;
    private static final String[] ONE_IDEAL = {"size", "has", "inRadical", "isGraded", "standard", "standardAt", "series",
        "polynomial", "dimension", "multiplicity", "roots", "table", "length", "regularity", "depth", "isOfWords",
        "components", "componentAt", "primes", "primeAt", "lead", "words", "numberOf"};
    private static final String POLYNOMIAL = " 2.110 1.010 4.000";
    private static final String LISTED = "1.020 2.100 1.000; 1.110 4.000; 1.200 3.100 3.010";
    private static final String IDEALS = "1.040 1.100 1.000; 1.400 1.010 | 1.130; 1.220 |  | 1.000 | 1.200 1.110";
    private static final String FACES = "2 facets 7 56, 1 6 6 2 0 0 0";
    private static final String DUAL = "9 facets 27 29 30 43 45 46 51 53 54, 1 6 15 18 9 0 0";
    private static final String NO_FACES = "0 facets, 0 0 0 0 0 0 0";

    private final int letters;
    private final boolean isFull;
    private final Map<String, String> due = new LinkedHashMap<>();

    private StaysTest(int letters, boolean isFull) {
        this.letters = letters;
        this.isFull = isFull;
    }

    public static void main(String[] arguments) {
        for (int letters = 2; letters <= 3; letters++) {
            for (boolean isFull : new boolean[] {false, true}) {
                StaysTest t = new StaysTest(letters, isFull);
                t.looks();
                t.polynomialAndList();
                t.faces();
                t.begins();
                t.ringRefused();
                t.listRefused();
                t.missing();
                t.madeRefused();
                t.numbersRefused();
                t.notOfItsKind();
                t.facesRefused();
            }
            StaysTest t = new StaysTest(letters, false);
            t.newIdeals();
            t.meansRefused();
        }
        Calls.end();
    }

    private Renewed state() {
        Renewed s = Calls.ring(PRIME, letters, 'd');
        Calls.ideal(s, "1 400, 1 010; 1 040, 1 100, 1 000");
        Calls.ideal(s, "1 220; 1 130");
        Calls.ideal(s, "");
        Calls.ideal(s, "2 000");
        Calls.ideal(s, "1 200, 1 110");
        if (isFull) {
            Calls.fill(s);
        }
        Calls.list(s, "1 020, 2 100, 1 000; 1 110, 4 000");
        Calls.poly(s, "2 110, 1 010, 4 000");
        s.put(7);
        s.put(56);
        return s;
    }

    private static String part(Renewed s, String part) {
        switch (part) {
            case "polynomial": return Calls.polynomial(s, PRIME);
            case "numbers": return numbers(s);
            case "list": return "" + s.dropList();
            case "listed": return listed(s);
            case "order": return order(s);
            case "ideals": return ideals(s);
            default: return facesTold(s);
        }
    }

    /** The prime, by how often a word comes before it goes; the number of letters, by what is refused. */
    private static String numbers(Renewed s) {
        s.wipe();
        int times = 1;
        while (times < 9 && s.term(1, 0, 3, 0) > 0) {
            times++;
        }
        return times + (Calls.of(() -> s.term(1, 0, 0, 1)) instanceof Integer ? " xyz" : " xy");
    }

    private static String listed(Renewed s) {
        int number = s.ideals();
        if (number >= 12) {
            return "" + s.dropList();
        }
        String made = Calls.of(() -> s.ideal()).toString();
        return !made.equals("" + number) ? made : Calls.basis(s, number, 3, 'd');
    }

    /** The order, by the leading word of xz + y^2; with two letters there is but one. */
    private static String order(Renewed s) {
        if (s.ideals() >= 12) {
            return "?";
        }
        s.wipe();
        s.dropList();
        boolean hasZ = Calls.of(() -> s.term(1, 1, 0, 1)) instanceof Integer;
        Calls.poly(s, "1 020");
        s.push();
        int made = s.ideal();
        return hasZ ? Calls.leads(s, made, 3) : Calls.leads(s, made, 2);
    }

    private static String ideals(Renewed s) {
        StringBuilder b = new StringBuilder();
        for (int i = 0; i < s.ideals(); i++) {
            b.append(i == 0 ? "" : " | ").append(Calls.basis(s, i, 3, 'd'));
        }
        return b.toString();
    }

    private static String facesTold(Renewed s) {
        StringBuilder b = new StringBuilder();
        int facets = 0;
        for (int i = 0; i < 21; i++) {
            int index = i;
            Object facet = Calls.of(() -> s.facetAt(index));
            if (facet instanceof Integer) {
                b.append(' ').append(facet);
                facets++;
            }
        }
        b.append(',');
        for (int dimension = -1; dimension <= 5; dimension++) {
            b.append(' ').append(s.faces(dimension));
        }
        return facets + " facets" + b;
    }

    /** What is due if nothing is changed. */
    private void asBefore() {
        String name = letters == 2 ? "xy" : "xyz";
        due.put("polynomial", name + POLYNOMIAL);
        due.put("numbers", PRIME + " " + name);
        due.put("list", "2");
        due.put("listed", isFull ? "2" : LISTED);
        due.put("order", isFull ? "?" : letters == 2 ? "020" : "101");
        due.put("ideals", IDEALS + (isFull ? " | ".repeat(7) : ""));
        due.put("faces", FACES);
    }

    /** One call, and what it changes: names of parts, each followed by what is due of it then. */
    private void changes(String name, Function<Renewed, Object> call, String... changed) {
        Calls.test(name + (isFull ? ", with 12 ideals, " : ", ") + letters + " letters", () -> {
            asBefore();
            for (int i = 0; i + 1 < changed.length; i += 2) {
                due.put(changed[i], changed[i + 1]);
            }
            for (Map.Entry<String, String> part : due.entrySet()) {
                Renewed s = state();
                call.apply(s);
                Calls.due(part.getKey(), part(s, part.getKey()), part.getValue());
                Calls.due("another object was made", s.renewals(), 0);
            }
            if (!Arrays.asList(changed).contains("faces")) {
                Renewed s = state();
                s.clear();
                Calls.of(() -> call.apply(s));
                Calls.due("no faces, not the empty one either", part(s, "faces"), NO_FACES);
            }
        });
    }

    private void looks() {
        changes("no call at all", s -> 0);
        for (int ideal = 0; ideal < 5; ideal++) {
            int i = ideal;
            for (String name : ONE_IDEAL) {
                changes(name + " of " + i, s -> Calls.of(() -> Calls.called(s, name, i, 0)));
            }
            for (int other = 0; other < 5; other++) {
                int j = other;
                changes("isSame " + i + " " + j, s -> s.isSame(i, j));
                changes("isWithin " + i + " " + j, s -> s.isWithin(i, j));
            }
        }
        changes("ideals", s -> s.ideals());
        for (int dimension = -1; dimension <= 5; dimension++) {
            int d = dimension;
            changes("faces " + d, s -> s.faces(d));
            changes("holes " + d, s -> s.holes(d));
        }
        changes("facetAt", s -> s.facetAt(1));
        changes("canBeShelled", s -> s.canBeShelled());
        changes("ways", s -> s.ways(3, 5, 7, 100));
        changes("gradedShare", s -> s.gradedShare());
        changes("meanSize", s -> s.meanSize());
        changes("checksum", s -> s.checksum());
        changes("isSound", s -> s.isSound());
    }

    private void polynomialAndList() {
        String name = letters == 2 ? "xy" : "xyz";
        changes("term", s -> s.term(4, 1, 1, 0), "polynomial", name + " 1.110 1.010 4.000");
        changes("term that goes out", s -> s.term(3, 1, 1, 0), "polynomial", name + " 1.010 4.000");
        changes("term of 0", s -> s.term(5, 0, 0, 0));
        changes("wipe", s -> s.wipe(), "polynomial", name);
        changes("dropList", s -> s.dropList(), "list", "0", "listed", isFull ? "0" : "");
        changes("push", s -> s.push(), "polynomial", name, "list", "3", "listed", isFull ? "3" : "1.010 1.000; 1.100 1.000");
        changes("rest by (x^2 + xy)", s -> s.rest(4));
        changes("rest by 0", s -> s.rest(2));
        changes("rest by all", s -> s.rest(3), "polynomial", name);
        changes("rest that is another one", s -> {
            s.wipe();
            Calls.poly(s, "1 200, 3 000");
            return s.rest(4);
        }, "polynomial", name + " 4.110 3.000");
    }

    private void faces() {
        changes("put what is there", s -> s.put(32), "faces", FACES);
        changes("put more", s -> s.put(9), "faces", "3 facets 7 9 56, 1 6 7 2 0 0 0");
        changes("clear", s -> s.clear(), "faces", NO_FACES);
        changes("dual", s -> s.dual(), "faces", DUAL);
        changes("dual twice", s -> s.dual() + s.dual());
    }

    private void begins() {
        changes("begin", s -> s.begin(PRIME, 5 - letters, 'g'), "polynomial", letters == 2 ? "xyz" : "xy", "numbers",
            letters == 2 ? "5 xyz" : "5 xy", "list", "0", "listed", "", "order", "020", "ideals", "");
    }

    private void newIdeals() {
        changes("ideal", s -> s.ideal(), "list", "0", "listed", "", "ideals", IDEALS + " | " + LISTED);
        changes("join +", s -> s.join('+', 2, 4), "ideals", IDEALS + " | 1.200 1.110");
        changes("join *", s -> s.join('*', 4, 4), "ideals", IDEALS + " | 1.400 2.310 1.220");
        changes("join &", s -> s.join('&', 3, 4), "ideals", IDEALS + " | 1.200 1.110");
        changes("join :", s -> s.join(':', 1, 4), "ideals", IDEALS + " | 1.020");
        changes("join ~", s -> s.join('~', 4, 1), "ideals", IDEALS + " | 1.100 1.010");
        changes("join by 0", s -> s.join('~', 1, 2), "ideals", IDEALS + " | 1.000");
        changes("without", s -> s.without(4, 0), "ideals", IDEALS + " | ");
        changes("without, all", s -> s.without(3, 1), "ideals", IDEALS + " | 1.000");
        changes("radical", s -> s.radical(1), "ideals", IDEALS + " | 1.110");
        changes("radical of 0", s -> s.radical(2), "ideals", IDEALS + " | ");
    }

    /** A call that throws, after what makes it so, and what that has changed already. */
    private void refused(String name, Consumer<Renewed> before, Function<Renewed, Object> call, String exception,
            String... changed) {
        changes(name + " throws", s -> {
            before.accept(s);
            Object answer = Calls.of(() -> call.apply(s));
            Calls.due("answer", answer, exception);
            return answer;
        }, changed);
    }

    private void refused(String name, Function<Renewed, Object> call, String exception) {
        refused(name, s -> { }, call, exception);
    }

    private void ringRefused() {
        int other = 5 - letters;
        refused("2: prime", s -> s.begin(4, other, 'g'), Calls.ARGUMENT);
        refused("2: letters", s -> s.begin(7, 4, 'g'), Calls.ARGUMENT);
        refused("2: order", s -> s.begin(7, other, 'h'), Calls.ARGUMENT);
        refused("3: power", s -> s.term(1, 5, 0, 0), Calls.ARGUMENT);
        refused("3: degree", s -> s.term(1, 3, 2, 0), Calls.ARGUMENT);
        refused("3: z", s -> s.term(1, 0, 0, letters == 2 ? 1 : 5), Calls.ARGUMENT);
    }

    private void listRefused() {
        String name = letters == 2 ? "xy" : "xyz";
        refused("5: it is 0", s -> s.wipe(), s -> s.push(), Calls.REFUSED, "polynomial", name);
        refused("5: the list has 4", s -> {
            s.wipe();
            Calls.list(s, "1 020, 2 100, 1 000; 1 110, 4 000");
            Calls.poly(s, "3 020, 1 100");
        }, s -> s.push(), Calls.STATE, "polynomial", name + " 3.020 1.100", "list", "4", "listed", isFull ? "4" : LISTED);
        refused("7: refused", s -> {
            s.wipe();
            s.dropList();
            Calls.list(s, "1 400; 1 310, 1 040");
            Calls.poly(s, "3 020, 1 100");
        }, s -> s.ideal(), Calls.REFUSED, "polynomial", name + " 3.020 1.100", "listed", isFull ? "2" : Calls.REFUSED);
        if (isFull) {
            refused("7: there are 12", s -> s.ideal(), Calls.STATE);
        }
    }

    private void missing() {
        for (int no : new int[] {-1, 12}) {
            for (String name : ONE_IDEAL) {
                refused(name + " " + no, s -> Calls.called(s, name, no, 0), Calls.INDEX);
            }
            for (String name : new String[] {"rest", "without", "radical"}) {
                refused(name + " " + no, s -> Calls.called(s, name, no, 0), Calls.INDEX);
            }
            refused("isSame " + no, s -> s.isSame(0, no), Calls.INDEX);
            refused("isWithin " + no, s -> s.isWithin(no, 0), Calls.INDEX);
            refused("join " + no, s -> s.join('+', 0, no), Calls.INDEX);
        }
        refused("10: place", s -> s.lead(1, 2, 0), Calls.INDEX);
        refused("10: letter", s -> s.lead(1, 0, letters), Calls.ARGUMENT);
        refused("11: place", s -> s.words(1, 2), Calls.INDEX);
        refused("12: place", s -> s.numberOf(1, 2, 0, 0, 0), Calls.INDEX);
    }

    private void madeRefused() {
        refused("18: kind", s -> s.join('x', 0, 1), Calls.ARGUMENT);
        refused("18: refused", s -> s.join('*', 0, 0), Calls.REFUSED);
        refused("19: letter", s -> s.without(0, letters), Calls.ARGUMENT);
        refused("19: refused", s -> s.without(0, 0), Calls.REFUSED);
        refused("37: not one of words", s -> s.radical(0), Calls.REFUSED);
        if (isFull) {
            for (char kind : new char[] {'+', '*', '&', ':', '~'}) {
                refused("18: there are 12, " + kind, s -> s.join(kind, 4, 3), Calls.STATE);
            }
            refused("19: there are 12, 0", s -> s.without(4, 0), Calls.STATE);
            refused("19: there are 12, all", s -> s.without(3, 1), Calls.STATE);
            refused("37: there are 12", s -> s.radical(1), Calls.STATE);
        }
    }

    private void numbersRefused() {
        refused("21: degree", s -> s.standard(0, 41), Calls.ARGUMENT);
        refused("22: index", s -> s.standardAt(0, 100, 0), Calls.ARGUMENT);
        refused("22: letter", s -> s.standardAt(0, 0, letters), Calls.ARGUMENT);
        refused("22: not so many", s -> s.standardAt(3, 0, 0), Calls.NONE);
        refused("23: power", s -> s.series(0, 61), Calls.ARGUMENT);
        refused("24: degree", s -> s.polynomial(0, 1000001), Calls.ARGUMENT);
        refused("28: i", s -> s.table(4, letters + 1, 0), Calls.ARGUMENT);
        refused("28: j", s -> s.table(4, 0, 19), Calls.ARGUMENT);
        refused("45: a number", s -> s.ways(0, 1, 1, 1), Calls.ARGUMENT);
        refused("45: the sum", s -> s.ways(1, 1, 1, 1000001), Calls.ARGUMENT);
    }

    private void notOfItsKind() {
        for (String name : new String[] {"table", "length", "regularity", "depth", "components", "componentAt", "primes",
            "primeAt"}) {
            refused(name + " of what is not graded nor of words", s -> Calls.called(s, name, 0, 0), Calls.REFUSED);
        }
        refused("34: letter", s -> s.componentAt(1, 0, letters), Calls.ARGUMENT);
        refused("34: not so many", s -> s.componentAt(1, 9, 0), Calls.NONE);
        refused("36: not so many", s -> s.primeAt(1, 9), Calls.NONE);
    }

    private void facesRefused() {
        refused("38: 0", s -> s.put(0), Calls.ARGUMENT);
        refused("38: 64", s -> s.put(64), Calls.ARGUMENT);
        refused("40: dimension", s -> s.faces(6), Calls.ARGUMENT);
        refused("41: not so many", s -> s.facetAt(2), Calls.NONE);
        refused("42: dimension", s -> s.holes(6), Calls.ARGUMENT);
        refused("44: no face", s -> s.clear(), s -> s.canBeShelled(), Calls.REFUSED, "faces", NO_FACES);
        refused("44: 9 facets", s -> s.dual(), s -> s.canBeShelled(), Calls.REFUSED, "faces", DUAL);
    }

    /** Without ideals, as none go but with all that the ring has; the list and the polynomial are made again. */
    private void meansRefused() {
        Consumer<Renewed> none = s -> {
            s.begin(PRIME, letters, 'd');
            Calls.list(s, "1 020, 2 100, 1 000; 1 110, 4 000");
            Calls.poly(s, "2 110, 1 010, 4 000");
        };
        refused("46: there are none", none, s -> s.gradedShare(), Calls.NUMBERS, "ideals", "");
        refused("47: there are none", none, s -> s.meanSize(), Calls.NUMBERS, "ideals", "");
    }
}
