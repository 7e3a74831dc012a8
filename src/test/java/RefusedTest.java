import java.io.IOException;
import java.nio.file.Files;
import java.nio.file.Path;
import java.util.List;
import java.util.function.Function;
import java.util.function.Supplier;

/**
 * Each exception of each promise alone, and those that apply at once: "If several exceptions apply, the one that is
 * listed first is thrown"; and after each of them: "A method that throws an exception changes nothing".
 */
public final class RefusedTest {
    private static final int PRIME = 3;
    /** The ideals of a state: neither graded nor of words, words, 0, all, graded. */
    private static final int ODD = 0;
    private static final int WORDS = 1;
    private static final int ZERO = 2;
    private static final int ALL = 3;
    private static final int GRADED = 4;
    /** No ideal, be there 5 or 12. */
    private static final int[] MISSING = {-1, 12, Calls.LEAST, Calls.MOST};

    public static void main(String[] arguments) throws IOException {
        for (int letters = 2; letters <= 3; letters++) {
            rings(letters);
            lists(letters);
            looks(letters);
            for (boolean isFull : new boolean[] {false, true}) {
                missing(letters, isFull);
                bases(letters, isFull);
                joins(letters, isFull);
                freed(letters, isFull);
                counted(letters, isFull);
                tables(letters, isFull);
                ofWords(letters, isFull);
            }
        }
        faces();
        numbers();
        for (String line : Files.readAllLines(Path.of("src/test/data/edges.txt"))) {
            bySize(line);
        }
        Calls.end();
    }

    /** A state in which nothing is as in a new object, with 5 ideals or 12. */
    private static Renewed state(int letters, boolean isFull) {
        Renewed s = Calls.ring(PRIME, letters, 'd');
        Calls.ideal(s, "1 400, 1 010; 1 040, 1 100, 1 000");
        Calls.ideal(s, "1 220; 1 130");
        Calls.ideal(s, "");
        Calls.ideal(s, "2 000");
        Calls.ideal(s, "1 200, 1 110");
        if (isFull) {
            Calls.fill(s);
        }
        Calls.list(s, "1 100, 1 010; 1 110");
        Calls.poly(s, "2 110, 1 000");
        s.put(7);
        s.put(56);
        return s;
    }

    /** All that can be told of an object; it is another one afterwards. */
    private static String told(Renewed s, int prime) {
        StringBuilder b = new StringBuilder("polynomial " + Calls.polynomial(s, prime));
        int letters = Calls.of(() -> s.term(0, 0, 0, 1)) instanceof Integer ? 3 : 2;
        b.append("\nideals ").append(s.ideals()).append(' ').append(s.checksum());
        for (int i = 0; i < s.ideals(); i++) {
            int ideal = i;
            b.append("\n").append(i).append(": ").append(Calls.leads(s, i, letters)).append(" with");
            for (int place = 0; place < s.size(i); place++) {
                b.append(' ').append(s.words(i, place));
            }
            b.append(", ").append(s.multiplicity(i)).append(' ').append(Calls.of(() -> s.regularity(ideal)));
        }
        b.append("\nfaces");
        for (int d = -1; d <= 5; d++) {
            b.append(' ').append(s.faces(d)).append('-').append(s.holes(d));
        }
        for (int i = 0; i < 21; i++) {
            int index = i;
            b.append(' ').append(Calls.of(() -> s.facetAt(index)));
        }
        // The list is told by what it generates, if there is a place for that; the order by words that are standard.
        b.append("\nlist ");
        boolean isRoom = s.ideals() < 11;
        b.append(Calls.of(() -> isRoom ? Calls.leads(s, s.ideal(), letters) : "?")).append(' ').append(s.dropList());
        if (isRoom) {
            int zero = s.ideal();
            for (int index = 0; index < 10; index++) {
                b.append(' ').append(s.standardAt(zero, index, 0));
            }
        }
        Calls.due("another object was made", s.renewals(), 0);
        return b.toString();
    }

    private static void refused(String name, Supplier<Renewed> maker, Function<Renewed, Object> call, String due) {
        Calls.test(name, () -> {
            Renewed s = maker.get();
            Calls.due("answer", Calls.of(() -> call.apply(s)), due);
            Calls.due("answer once more", Calls.of(() -> call.apply(s)), due);
            Calls.due("nothing is changed", told(s, PRIME), told(maker.get(), PRIME));
        });
    }

    private static void rings(int letters) {
        Supplier<Renewed> maker = () -> state(letters, false);
        int other = 5 - letters;
        refused("2: no such prime", maker, s -> s.begin(4, other, 'g'), Calls.ARGUMENT);
        refused("2: letters out of range", maker, s -> s.begin(5, 4, 'g'), Calls.ARGUMENT);
        refused("2: letters out of range", maker, s -> s.begin(5, 1, 'g'), Calls.ARGUMENT);
        refused("2: no such order", maker, s -> s.begin(5, other, 'h'), Calls.ARGUMENT);
        refused("2: nothing of it", maker, s -> s.begin(0, 0, ' '), Calls.ARGUMENT);
        refused("3: power 5", maker, s -> s.term(1, 5, 0, 0), Calls.ARGUMENT);
        refused("3: power -1", maker, s -> s.term(1, 1, -1, 0), Calls.ARGUMENT);
        refused("3: degree 5", maker, s -> s.term(1, 3, 2, 0), Calls.ARGUMENT);
        refused("3: a power out of range, and the number 0", maker, s -> s.term(0, 0, 5, 0), Calls.ARGUMENT);
        refused("3: degree 5, and a number that is 0", maker, s -> s.term(3, 2, 3, 0), Calls.ARGUMENT);
        if (letters == 2) {
            refused("3: z", maker, s -> s.term(1, 0, 0, 1), Calls.ARGUMENT);
            refused("3: z, and the number 0", maker, s -> s.term(0, 1, 0, 1), Calls.ARGUMENT);
        }
    }

    private static void lists(int letters) {
        Supplier<Renewed> none = () -> {
            Renewed s = state(letters, false);
            s.wipe();
            return s;
        };
        Supplier<Renewed> four = () -> {
            Renewed s = none.get();
            Calls.list(s, "1 400; 1 000");
            return s;
        };
        Supplier<Renewed> more = () -> {
            Renewed s = four.get();
            Calls.poly(s, "2 110, 1 000");
            return s;
        };
        refused("5: it is 0", none, s -> s.push(), Calls.REFUSED);
        refused("5: it is 0, and the list has 4", four, s -> s.push(), Calls.REFUSED);
        refused("5: the list has 4", more, s -> s.push(), Calls.STATE);
        for (boolean isFull : new boolean[] {false, true}) {
            Supplier<Renewed> large = () -> {
                Renewed s = state(letters, isFull);
                s.wipe();
                s.dropList();
                Calls.list(s, "1 400; 1 310, 1 040");
                Calls.poly(s, "2 110, 1 000");
                return s;
            };
            refused("7: it is refused" + (isFull ? ", and there are 12" : ""), large, s -> s.ideal(), Calls.REFUSED);
        }
        refused("7: there are 12", () -> state(letters, true), s -> s.ideal(), Calls.STATE);
        refused("7: there are 12, and the list is empty", () -> {
            Renewed s = state(letters, true);
            s.dropList();
            return s;
        }, s -> s.ideal(), Calls.STATE);
    }

    /** What only looks changes nothing either, whatever it answers; a rest is made of the polynomial alone. */
    private static void looks(int letters) {
        String[] names = {"size", "lead", "words", "numberOf", "has", "inRadical", "isGraded", "standard", "standardAt",
            "series", "polynomial", "dimension", "multiplicity", "roots", "table", "length", "regularity", "depth",
            "isOfWords", "components", "componentAt", "primes", "primeAt"};
        for (boolean isFull : new boolean[] {false, true}) {
            Calls.test("a look at one ideal changes nothing", () -> {
                Renewed s = state(letters, isFull);
                for (String name : names) {
                    for (int ideal = 0; ideal < 5; ideal++) {
                        int i = ideal;
                        Object first = Calls.of(() -> Calls.called(s, name, i, 0));
                        Calls.due(name, Calls.of(() -> Calls.called(s, name, i, 0)), first);
                    }
                }
                Calls.due("nothing is changed", told(s, PRIME), told(state(letters, isFull), PRIME));
            });
            Calls.test("another look changes nothing", () -> {
                Renewed s = state(letters, isFull);
                for (int ideal = 0; ideal < 25; ideal++) {
                    Calls.due("same", s.isSame(ideal / 5, ideal % 5), ideal / 5 == ideal % 5);
                    Calls.due("within", s.isWithin(ideal / 5, ideal % 5), ideal / 5 == ideal % 5 || ideal / 5 == ZERO
                        || ideal % 5 == ALL);
                }
                Calls.due("shelled", s.canBeShelled(), false);
                Calls.due("ways", s.ways(3, 5, 7, 100), 55);
                Calls.due("sound", s.isSound(), true);
                Calls.due("sums", s.checksum() + " " + s.gradedShare() + " " + s.meanSize(),
                    s.checksum() + " " + s.gradedShare() + " " + s.meanSize());
                Calls.due("nothing is changed", told(s, PRIME), told(state(letters, isFull), PRIME));
            });
        }
    }

    private static void missing(int letters, boolean isFull) {
        Supplier<Renewed> maker = () -> state(letters, isFull);
        String[] names = {"9 size", "10 lead", "11 words", "12 numberOf", "13 has", "14 rest", "15 inRadical",
            "19 without", "20 isGraded", "21 standard", "22 standardAt", "23 series", "24 polynomial", "25 dimension",
            "26 multiplicity", "27 roots", "28 table", "29 length", "30 regularity", "31 depth", "32 isOfWords",
            "33 components", "34 componentAt", "35 primes", "36 primeAt", "37 radical"};
        for (String name : names) {
            for (int no : MISSING) {
                refused(name + " " + no, maker, s -> Calls.called(s, name.substring(3), no, 0), Calls.INDEX);
                refused(name + " " + no + ", and nothing else is right", maker, s -> Calls.called(s, name.substring(3), no, -1),
                    Calls.INDEX);
            }
            if (!isFull) {
                refused(name + " 5", maker, s -> Calls.called(s, name.substring(3), 5, 0), Calls.INDEX);
            }
        }
        for (int no : MISSING) {
            refused("16: no first one " + no, maker, s -> s.isSame(no, 0), Calls.INDEX);
            refused("16: no second one " + no, maker, s -> s.isSame(0, no), Calls.INDEX);
            refused("16: neither " + no, maker, s -> s.isSame(no, no), Calls.INDEX);
            refused("17: no first one " + no, maker, s -> s.isWithin(no, 0), Calls.INDEX);
            refused("17: no second one " + no, maker, s -> s.isWithin(0, no), Calls.INDEX);
            refused("17: neither " + no, maker, s -> s.isWithin(no, no), Calls.INDEX);
        }
    }

    private static void bases(int letters, boolean isFull) {
        Supplier<Renewed> maker = () -> state(letters, isFull);
        for (int letter : new int[] {-1, letters, Calls.LEAST, Calls.MOST}) {
            refused("10: no such letter " + letter, maker, s -> s.lead(WORDS, 0, letter), Calls.ARGUMENT);
            refused("10: no such place, nor letter " + letter, maker, s -> s.lead(WORDS, 2, letter), Calls.INDEX);
            refused("10: no such place in 0, nor letter " + letter, maker, s -> s.lead(ZERO, 0, letter), Calls.INDEX);
            refused("10: no such ideal, nor letter " + letter, maker, s -> s.lead(12, 0, letter), Calls.INDEX);
        }
        for (int place : new int[] {-1, 2, 12, Calls.LEAST, Calls.MOST}) {
            refused("10: no such place " + place, maker, s -> s.lead(WORDS, place, 0), Calls.INDEX);
            refused("11: no such place " + place, maker, s -> s.words(WORDS, place), Calls.INDEX);
            refused("12: no such place " + place, maker, s -> s.numberOf(WORDS, place, 2, 2, 0), Calls.INDEX);
            refused("12: no such place, and a power that cannot be", maker, s -> s.numberOf(WORDS, place, -1, 7, 0),
                Calls.INDEX);
        }
        refused("12: no such ideal, and a power that cannot be", maker, s -> s.numberOf(12, 0, -1, 7, 0), Calls.INDEX);
    }

    /** For each kind of all that can be wrong at once: no kind, no ideal, refused, and that there are 12. */
    private static void joins(int letters, boolean isFull) {
        Supplier<Renewed> maker = () -> state(letters, isFull);
        for (char kind : new char[] {0, '-', 'x', 65535}) {
            refused("18: no such kind", maker, s -> s.join(kind, WORDS, GRADED), Calls.ARGUMENT);
            refused("18: no such kind, nor ideals", maker, s -> s.join(kind, -1, 12), Calls.ARGUMENT);
            refused("18: no such kind, of what would be refused", maker, s -> s.join(kind, ODD, ODD), Calls.ARGUMENT);
        }
        for (char kind : new char[] {'+', '*', '&', ':', '~'}) {
            for (int no : MISSING) {
                refused("18: no first one " + no, maker, s -> s.join(kind, no, ODD), Calls.INDEX);
                refused("18: no second one " + no, maker, s -> s.join(kind, ODD, no), Calls.INDEX);
                refused("18: neither " + no, maker, s -> s.join(kind, no, no), Calls.INDEX);
            }
            if (isFull) {
                for (int one = 0; one < 5; one++) {
                    int first = one;
                    for (int other : new int[] {ZERO, ALL}) {
                        refused("18: there are 12, " + kind, maker, s -> s.join(kind, first, other), Calls.STATE);
                        refused("18: there are 12, " + kind, maker, s -> s.join(kind, other, first), Calls.STATE);
                    }
                }
            }
        }
        refused("18: refused", maker, s -> s.join('*', ODD, ODD), Calls.REFUSED);
        refused("18: a product of the degree 8", maker, s -> s.join('*', WORDS, WORDS), Calls.REFUSED);
    }

    private static void freed(int letters, boolean isFull) {
        Supplier<Renewed> maker = () -> state(letters, isFull);
        for (int letter : new int[] {-1, letters, Calls.LEAST, Calls.MOST}) {
            refused("19: no such letter " + letter, maker, s -> s.without(WORDS, letter), Calls.ARGUMENT);
            refused("19: no such letter, of what would be refused", maker, s -> s.without(ODD, letter), Calls.ARGUMENT);
            refused("19: no such ideal, nor letter", maker, s -> s.without(-1, letter), Calls.INDEX);
        }
        refused("19: refused", maker, s -> s.without(ODD, 0), Calls.REFUSED);
        refused("19: refused", maker, s -> s.without(ODD, 1), Calls.REFUSED);
        if (isFull) {
            for (int ideal = 1; ideal < 5; ideal++) {
                int no = ideal;
                refused("19: there are 12", maker, s -> s.without(no, 0), Calls.STATE);
                refused("19: there are 12", maker, s -> s.without(no, letters - 1), Calls.STATE);
            }
        }
    }

    private static void counted(int letters, boolean isFull) {
        Supplier<Renewed> maker = () -> state(letters, isFull);
        for (int ideal = 0; ideal < 5; ideal++) {
            int i = ideal;
            refused("21: degree -1", maker, s -> s.standard(i, -1), Calls.ARGUMENT);
            refused("21: degree 41", maker, s -> s.standard(i, 41), Calls.ARGUMENT);
            refused("22: index -1", maker, s -> s.standardAt(i, -1, 0), Calls.ARGUMENT);
            refused("22: index 100", maker, s -> s.standardAt(i, 100, 0), Calls.ARGUMENT);
            refused("22: no such letter -1", maker, s -> s.standardAt(i, 0, -1), Calls.ARGUMENT);
            refused("22: no such letter " + letters, maker, s -> s.standardAt(i, 0, letters), Calls.ARGUMENT);
            refused("22: nor such an index", maker, s -> s.standardAt(i, 100, letters), Calls.ARGUMENT);
            refused("23: power -1", maker, s -> s.series(i, -1), Calls.ARGUMENT);
            refused("23: power 61", maker, s -> s.series(i, 61), Calls.ARGUMENT);
            refused("24: degree -1", maker, s -> s.polynomial(i, -1), Calls.ARGUMENT);
            refused("24: degree 1000001", maker, s -> s.polynomial(i, 1000001), Calls.ARGUMENT);
        }
        refused("22: not so many", maker, s -> s.standardAt(ALL, 0, 0), Calls.NONE);
        refused("22: not so many", maker, s -> s.standardAt(ALL, 99, 1), Calls.NONE);
        refused("22: no such letter, and not so many", maker, s -> s.standardAt(ALL, 0, letters), Calls.ARGUMENT);
        refused("22: index 100, and not so many", maker, s -> s.standardAt(ALL, 100, 0), Calls.ARGUMENT);
        refused("22: no such ideal, nor index, nor letter", maker, s -> s.standardAt(12, 100, 3), Calls.INDEX);
        refused("21: no such ideal, nor degree", maker, s -> s.standard(12, 41), Calls.INDEX);
        refused("23: no such ideal, nor power", maker, s -> s.series(12, 61), Calls.INDEX);
        refused("24: no such ideal, nor degree", maker, s -> s.polynomial(12, 1000001), Calls.INDEX);
        if (letters == 2) {
            refused("22: not so many as 17", maker, s -> s.standardAt(ODD, 16, 0), Calls.NONE);
            refused("22: no such letter, and not so many", maker, s -> s.standardAt(ODD, 16, 2), Calls.ARGUMENT);
        }
    }

    private static void tables(int letters, boolean isFull) {
        Supplier<Renewed> maker = () -> state(letters, isFull);
        for (int i : new int[] {-1, letters + 1, Calls.LEAST, Calls.MOST}) {
            refused("28: i " + i, maker, s -> s.table(GRADED, i, 0), Calls.ARGUMENT);
            refused("28: i " + i + ", and not graded", maker, s -> s.table(ODD, i, 0), Calls.ARGUMENT);
            refused("28: i " + i + ", and no such ideal", maker, s -> s.table(12, i, 0), Calls.INDEX);
        }
        for (int j : new int[] {-1, 19, Calls.LEAST, Calls.MOST}) {
            refused("28: j " + j, maker, s -> s.table(GRADED, 0, j), Calls.ARGUMENT);
            refused("28: j " + j + ", and not graded", maker, s -> s.table(ODD, 0, j), Calls.ARGUMENT);
            refused("28: j " + j + ", and no such ideal", maker, s -> s.table(-1, 0, j), Calls.INDEX);
        }
        refused("28: not graded", maker, s -> s.table(ODD, 0, 0), Calls.REFUSED);
        refused("28: not graded", maker, s -> s.table(ODD, letters, 18), Calls.REFUSED);
        refused("29: not graded", maker, s -> s.length(ODD), Calls.REFUSED);
        refused("30: not graded", maker, s -> s.regularity(ODD), Calls.REFUSED);
        refused("31: not graded", maker, s -> s.depth(ODD), Calls.REFUSED);
    }

    private static void ofWords(int letters, boolean isFull) {
        Supplier<Renewed> maker = () -> state(letters, isFull);
        for (int ideal : new int[] {ODD, GRADED}) {
            refused("33: not one of words", maker, s -> s.components(ideal), Calls.REFUSED);
            refused("34: not one of words", maker, s -> s.componentAt(ideal, 0, 0), Calls.REFUSED);
            refused("34: not one of words, no such letter", maker, s -> s.componentAt(ideal, 0, 3), Calls.REFUSED);
            refused("34: not one of words, not so many", maker, s -> s.componentAt(ideal, 99, 0), Calls.REFUSED);
            refused("35: not one of words", maker, s -> s.primes(ideal), Calls.REFUSED);
            refused("36: not one of words", maker, s -> s.primeAt(ideal, 0), Calls.REFUSED);
            refused("36: not one of words, not so many", maker, s -> s.primeAt(ideal, -1), Calls.REFUSED);
            refused("37: not one of words, be there 12", maker, s -> s.radical(ideal), Calls.REFUSED);
        }
        for (int letter : new int[] {-1, letters, Calls.LEAST, Calls.MOST}) {
            refused("34: no such letter", maker, s -> s.componentAt(WORDS, 0, letter), Calls.ARGUMENT);
            refused("34: no such letter, not so many", maker, s -> s.componentAt(WORDS, 3, letter), Calls.ARGUMENT);
            refused("34: no such letter, none at all", maker, s -> s.componentAt(ALL, 0, letter), Calls.ARGUMENT);
            refused("34: no such ideal, nor letter", maker, s -> s.componentAt(12, 3, letter), Calls.INDEX);
        }
        for (int index : new int[] {-1, 3, Calls.LEAST, Calls.MOST}) {
            refused("34: not so many", maker, s -> s.componentAt(WORDS, index, 0), Calls.NONE);
            refused("36: not so many", maker, s -> s.primeAt(WORDS, index), Calls.NONE);
            refused("36: no such ideal", maker, s -> s.primeAt(12, index), Calls.INDEX);
        }
        refused("34: one alone", maker, s -> s.componentAt(ZERO, 1, 0), Calls.NONE);
        refused("34: none at all", maker, s -> s.componentAt(ALL, 0, 0), Calls.NONE);
        refused("36: one alone", maker, s -> s.primeAt(ZERO, 1), Calls.NONE);
        refused("36: none at all", maker, s -> s.primeAt(ALL, 0), Calls.NONE);
        if (isFull) {
            for (int ideal : new int[] {WORDS, ZERO, ALL}) {
                refused("37: there are 12", maker, s -> s.radical(ideal), Calls.STATE);
            }
        }
    }

    private static void faces() {
        Supplier<Renewed> none = () -> {
            Renewed s = state(2, false);
            s.clear();
            return s;
        };
        Supplier<Renewed> nine = () -> {
            Renewed s = none.get();
            for (int set : new int[] {7, 11, 13, 14, 19, 21, 22, 35, 37}) {
                s.put(set);
            }
            return s;
        };
        for (Supplier<Renewed> maker : List.of(none, nine)) {
            for (int no : new int[] {0, -1, 64, Calls.LEAST, Calls.MOST}) {
                refused("38: " + no, maker, s -> s.put(no), Calls.ARGUMENT);
            }
            for (int no : new int[] {-2, 6, Calls.LEAST, Calls.MOST}) {
                refused("40: " + no, maker, s -> s.faces(no), Calls.ARGUMENT);
                refused("42: " + no, maker, s -> s.holes(no), Calls.ARGUMENT);
            }
            for (int no : new int[] {-1, 9, Calls.LEAST, Calls.MOST}) {
                refused("41: " + no, maker, s -> s.facetAt(no), Calls.NONE);
            }
        }
        refused("41: no face", none, s -> s.facetAt(0), Calls.NONE);
        refused("44: no face", none, s -> s.canBeShelled(), Calls.REFUSED);
        refused("44: more than 8 facets", nine, s -> s.canBeShelled(), Calls.REFUSED);
        refused("44: more than 8, of unlike dimensions", () -> {
            Renewed s = nine.get();
            s.put(56);
            s.put(48);
            s.put(15);
            s.put(28);
            s.put(44);
            s.put(52);
            return s;
        }, s -> s.canBeShelled(), Calls.REFUSED);
    }

    private static void numbers() {
        Supplier<Renewed> maker = () -> state(3, false);
        refused("45: one 0", maker, s -> s.ways(0, 1, 1, 1), Calls.ARGUMENT);
        refused("45: two 1001", maker, s -> s.ways(1, 1001, 1, 1), Calls.ARGUMENT);
        refused("45: three -1", maker, s -> s.ways(1, 1, -1, 1), Calls.ARGUMENT);
        refused("45: sum -1", maker, s -> s.ways(1, 1, 1, -1), Calls.ARGUMENT);
        refused("45: sum 1000001", maker, s -> s.ways(1, 1, 1, 1000001), Calls.ARGUMENT);
        refused("45: all of them", maker, s -> s.ways(0, 0, 1001, -1), Calls.ARGUMENT);
        Supplier<Renewed> begun = () -> {
            Renewed s = Calls.ring(PRIME, 3, 'd');
            Calls.list(s, "1 100, 1 010; 1 110");
            Calls.poly(s, "2 110, 1 000");
            s.put(7);
            return s;
        };
        refused("46: there are none", begun, s -> s.gradedShare(), Calls.NUMBERS);
        refused("47: there are no ideals", begun, s -> s.meanSize(), Calls.NUMBERS);
    }

    /**
     * What is too large is refused, be there 12 or not, and what is not, is only if there are 12; and nothing is
     * changed by either: not the ideals, nor the list, nor the polynomial.
     */
    private static void bySize(String line) {
        String[] p = line.split("\\|");
        String[] head = p[0].trim().split(" ");
        int prime = Integer.parseInt(head[0]);
        boolean isRefused = p[5].trim().equals("refused");
        for (boolean isFull : isRefused ? new boolean[] {false, true} : new boolean[] {true}) {
            Supplier<Renewed> maker = () -> {
                Renewed s = Calls.ring(prime, Integer.parseInt(head[1]), head[2].charAt(0));
                String kind = p[1].trim();
                if (!kind.equals("ideal")) {
                    Calls.ideal(s, p[2]);
                    Calls.ideal(s, kind.charAt(0) == 'w' ? "" : p[3]);
                }
                if (isFull) {
                    Calls.fill(s);
                }
                Calls.list(s, kind.equals("ideal") ? p[2] : "1 110; 1 000");
                Calls.poly(s, "-1 210, 1 100");
                return s;
            };
            Calls.test("ideals: " + (isFull ? "12, " : "") + line, () -> {
                Renewed s = maker.get();
                String due = isRefused ? Calls.REFUSED : Calls.STATE;
                Calls.due("answer", Calls.of(() -> made(s, p[1].trim())), due);
                Calls.due("answer once more", Calls.of(() -> made(s, p[1].trim())), due);
                Calls.due("nothing is changed", told(s, prime), told(maker.get(), prime));
            });
        }
    }

    private static int made(Renewed s, String kind) {
        if (kind.equals("ideal")) {
            return s.ideal();
        }
        return kind.charAt(0) == 'w' ? s.without(0, kind.charAt(1) - '0') : s.join(kind.charAt(0), 0, 1);
    }
}
