import java.math.BigInteger;
import java.util.ArrayList;
import java.util.List;

/** A test for each sentence that names a boundary, as in EdgesTest: promises 20 to 37 and 46 to 49. */
public final class CountedEdgesTest {
    private static final int[] PRIMES = {2, 3, 5, 7};
    /** Ideals with the edges of counting: nothing, all, a word, few standard words, many, none of high degrees. */
    private static final String[] COUNTED = {"", "1 000", "1 100", "1 400", "1 100; 1 010", "1 400; 1 040", "1 220; 1 310",
        "1 200; 1 110; 1 020", "1 200, 1 110, 1 010", "1 210, 1 120; 1 300, 1 010", "1 040, 1 100, 2 000"};
    private static final String[] WORDS = {"", "1 000", "1 100", "1 111", "1 400; 1 040; 1 004", "1 220; 1 022; 1 202",
        "1 210; 1 021; 1 102", "1 310; 1 130; 1 111; 1 004", "1 400; 1 310; 1 220; 1 130", "1 110; 1 011; 1 101",
        "1 120; 1 102"};

    public static void main(String[] arguments) {
        grading();
        standardWords();
        standardPlaces();
        series();
        values();
        dimensions();
        rootsCounted();
        tables();
        depths();
        ofWords();
        components();
        primes();
        radicals();
        shares();
        sums();
        sound();
        Calls.end();
    }

    private static void grading() {
        Calls.test("20: of 0 and of all", () -> {
            Renewed s = Calls.ring(5, 2, 'g');
            Calls.due("0", s.isGraded(Calls.ideal(s, "")), true);
            Calls.due("all", s.isGraded(Calls.ideal(s, "1 000")), true);
        });
        Calls.test("20: each polynomial of the basis, the first and the last one", () -> {
            Renewed s = Calls.ring(5, 3, 'g');
            Calls.due("all", s.isGraded(Calls.ideal(s, "1 100, 2 010; 1 002, 1 011; 1 030")), true);
            Calls.due("the first one is not", s.isGraded(Calls.ideal(s, "1 100, 2 000; 1 020; 1 002")), false);
            Calls.due("the last one is not", s.isGraded(Calls.ideal(s, "1 010; 1 002; 1 300, 1 200")), false);
            Calls.due("nor by its least word", s.isGraded(Calls.ideal(s, "1 300, 1 210, 1 120, 1 000")), false);
            Calls.due("by its basis it is", s.isGraded(Calls.ideal(s, "1 100, 1 010; 1 200, 1 100, 1 110, 1 010")), true);
        });
    }

    /** How many standard words of a degree there are, by trying all words. */
    private static long counted(int[][] leads, int letters, int degree) {
        long number = 0;
        for (int x = 0; x <= degree; x++) {
            for (int y = 0; x + y <= degree; y++) {
                int z = degree - x - y;
                if ((letters > 2 || z == 0) && Calls.isStandard(leads, x, y, z)) {
                    number++;
                }
            }
        }
        return number;
    }

    private static List<Integer> countedOnes(Renewed s) {
        List<Integer> ideals = new ArrayList<>();
        for (String list : COUNTED) {
            ideals.add(Calls.ideal(s, list));
        }
        return ideals;
    }

    private static void standardWords() {
        for (int letters = 2; letters <= 3; letters++) {
            int n = letters;
            Calls.test("21: degrees 0 to 40, " + letters + " letters", () -> {
                Renewed s = Calls.ring(3, n, 'd');
                for (int ideal : countedOnes(s)) {
                    int[][] leads = Calls.leadsOf(s, ideal, n);
                    for (int degree : new int[] {0, 1, 2, 3, 4, 5, 6, 7, 12, 39, 40}) {
                        Calls.due(COUNTED[ideal] + " of " + degree, s.standard(ideal, degree), counted(leads, n, degree));
                    }
                    for (int no : new int[] {Calls.LEAST, -40, -1, 41, 42, 4096, Calls.MOST}) {
                        Calls.due("" + no, Calls.of(() -> s.standard(ideal, no)), Calls.ARGUMENT);
                    }
                }
            });
        }
        Calls.test("21: of 0 all words, of all none, of the sixth powers up to the degree 15", () -> {
            Renewed s = Calls.ring(3, 3, 'g');
            int sixth = Calls.sixthPowers(s);
            int zero = Calls.ideal(s, "");
            int all = Calls.ideal(s, "1 000");
            Calls.due("0", s.standard(zero, 0) + " " + s.standard(zero, 40), "1 861");
            Calls.due("all", s.standard(all, 0) + " " + s.standard(all, 40), "0 0");
            Calls.due("15", s.standard(sixth, 15), 1);
            Calls.due("16", s.standard(sixth, 16), 0);
        });
    }

    private static void standardPlaces() {
        Calls.test("22: index 0 to 99", () -> {
            Renewed s = Calls.ring(7, 3, 'g');
            Calls.ideal(s, "1 010; 1 001");
            Calls.due("0", s.standardAt(0, 0, 0), 0);
            Calls.due("99", s.standardAt(0, 99, 0), 99);
            for (int no : new int[] {Calls.LEAST, -1, 100, 101, Calls.MOST}) {
                Calls.due("" + no, Calls.of(() -> s.standardAt(0, no, 0)), Calls.ARGUMENT);
            }
        });
        Calls.test("22: each of the first 100, by rising words", () -> {
            for (char order : new char[] {'g', 'd'}) {
                Renewed s = Calls.ring(2, 3, order);
                Calls.ideal(s, "1 210; 1 021, 1 110; 1 003");
                int[][] leads = Calls.leadsOf(s, 0, 3);
                List<int[]> words = Calls.words(3, 20, order);
                int index = 0;
                for (int i = words.size() - 1; i >= 0 && index < 100; i--) {
                    int[] w = words.get(i);
                    if (Calls.isStandard(leads, w[0], w[1], w[2])) {
                        Calls.due(order + " " + index, s.standardAt(0, index, 0) + " " + s.standardAt(0, index, 1) + " "
                            + s.standardAt(0, index, 2), w[0] + " " + w[1] + " " + w[2]);
                        index++;
                    }
                }
                Calls.due("so many", index, 100);
            }
        });
        Calls.test("22: 100 standard words: the last one has the index 99", () -> {
            Renewed s = Calls.ring(2, 3, 'g');
            int y = s.join('*', Calls.ideal(s, "1 040"), Calls.ideal(s, "1 010"));
            int z = s.join('*', Calls.ideal(s, "1 004"), Calls.ideal(s, "1 001"));
            int box = s.join('+', s.join('+', y, z), Calls.ideal(s, "1 400"));
            Calls.due("how many", s.multiplicity(box), 100L);
            Calls.due("the last one", s.standardAt(box, 99, 0) + " " + s.standardAt(box, 99, 1) + " "
                + s.standardAt(box, 99, 2), "3 4 4");
        });
        Calls.test("22: 99 standard words: there are not so many with the index 99", () -> {
            Renewed s = Calls.ring(2, 3, 'g');
            int x = s.join('*', Calls.ideal(s, "1 300"), 0);
            int y = s.join('*', Calls.ideal(s, "1 030"), 2);
            int word = s.join('*', Calls.ideal(s, "1 130"), Calls.ideal(s, "1 001"));
            int box = s.join('+', s.join('+', s.join('+', x, y), Calls.ideal(s, "1 004")), word);
            Calls.due("how many", s.multiplicity(box), 99L);
            Calls.due("the last one", s.standardAt(box, 98, 0) + " " + s.standardAt(box, 98, 1) + " "
                + s.standardAt(box, 98, 2), "5 5 0");
            Calls.due("no more", Calls.of(() -> s.standardAt(box, 99, 2)), Calls.NONE);
        });
        Calls.test("22: of all there is none, of one there is the index 0 alone", () -> {
            Renewed s = Calls.ring(2, 2, 'g');
            Calls.ideal(s, "1 000");
            Calls.ideal(s, "1 100; 1 010");
            Calls.due("none", Calls.of(() -> s.standardAt(0, 0, 0)), Calls.NONE);
            Calls.due("99", Calls.of(() -> s.standardAt(0, 99, 1)), Calls.NONE);
            Calls.due("one", s.standardAt(1, 0, 0) + s.standardAt(1, 0, 1), 0);
            Calls.due("not two", Calls.of(() -> s.standardAt(1, 1, 0)), Calls.NONE);
        });
        Calls.test("22: letters 0 to the last one", () -> {
            for (int letters = 2; letters <= 3; letters++) {
                Renewed s = Calls.zero(Calls.ring(2, letters, 'g'));
                Calls.due("0", s.standardAt(0, letters, 0), 1);
                Calls.due("the last one", s.standardAt(0, 1, letters - 1), 1);
                for (int no : new int[] {Calls.LEAST, -1, letters, 4, Calls.MOST}) {
                    Calls.due("" + no, Calls.of(() -> s.standardAt(0, 0, no)), Calls.ARGUMENT);
                }
            }
        });
    }

    private static void series() {
        for (int letters = 2; letters <= 3; letters++) {
            int n = letters;
            Calls.test("23: powers 0 to 60, " + letters + " letters", () -> {
                for (String list : COUNTED) {
                    Renewed s = Calls.ring(3, n, 'g');
                    int ideal = Calls.ideal(s, list);
                    int[][] leads = Calls.leadsOf(s, ideal, n);
                    for (int power = 0; power <= 60; power++) {
                        long sum = 0;
                        int[] signs = n == 2 ? new int[] {1, -2, 1} : new int[] {1, -3, 3, -1};
                        for (int k = 0; k < signs.length && k <= power; k++) {
                            sum += signs[k] * counted(leads, n, power - k);
                        }
                        Calls.due(list + " at " + power, s.series(ideal, power), sum);
                    }
                }
            });
        }
        Calls.test("23: of 0 it is 1, of all 0", () -> {
            Renewed s = Calls.ring(3, 3, 'g');
            Calls.ideal(s, "");
            Calls.ideal(s, "1 000");
            for (int power = 0; power <= 60; power++) {
                Calls.due("0 at " + power, s.series(0, power), power == 0 ? 1 : 0);
                Calls.due("all at " + power, s.series(1, power), 0);
            }
        });
        Calls.test("23: of the sixth powers up to the power 18", () -> {
            Renewed s = Calls.ring(3, 3, 'g');
            int sixth = Calls.sixthPowers(s);
            for (int power = 0; power <= 60; power++) {
                Calls.due("" + power, s.series(sixth, power),
                    power == 0 ? 1 : power == 6 ? -3 : power == 12 ? 3 : power == 18 ? -1 : 0);
            }
        });
        Calls.test("23: a power out of range", () -> {
            Renewed s = Calls.zero(new Renewed());
            for (int no : new int[] {Calls.LEAST, -1, 61, 62, Calls.MOST}) {
                Calls.due("" + no, Calls.of(() -> s.series(0, no)), Calls.ARGUMENT);
            }
        });
    }

    private static void values() {
        Calls.test("24: degrees 0 to 1000000, of 0", () -> {
            Renewed s = Calls.zero(Calls.ring(2, 3, 'g'));
            Calls.due("0", s.polynomial(0, 0), 1);
            Calls.due("1", s.polynomial(0, 1), 3);
            Calls.due("999999", s.polynomial(0, 999999), 500000500000L);
            Calls.due("1000000", s.polynomial(0, 1000000), 500001500001L);
            for (int no : new int[] {Calls.LEAST, -1, 1000001, Calls.MOST}) {
                Calls.due("" + no, Calls.of(() -> s.polynomial(0, no)), Calls.ARGUMENT);
            }
            Renewed two = Calls.zero(Calls.ring(2, 2, 'g'));
            Calls.due("two letters", two.polynomial(0, 0) + " " + two.polynomial(0, 1000000), "1 1000001");
        });
        Calls.test("24: of all, and of few standard words, it is 0", () -> {
            Renewed s = Calls.ring(2, 3, 'g');
            int sixth = Calls.sixthPowers(s);
            int all = Calls.ideal(s, "1 000");
            for (int degree : new int[] {0, 1, 15, 16, 1000000}) {
                Calls.due("all", s.polynomial(all, degree), 0);
                Calls.due("few", s.polynomial(sixth, degree), 0);
            }
        });
        Calls.test("24: at other degrees it has its own values, below 0, too", () -> {
            Renewed s = Calls.ring(2, 3, 'g');
            Calls.ideal(s, "1 300");
            s.join('*', 0, 0);
            Calls.due("0", s.polynomial(1, 0), -9);
            Calls.due("1", s.polynomial(1, 1), -3);
            Calls.due("2, where there are 6", s.polynomial(1, 2) + " " + s.standard(1, 2), "3 6");
            Calls.due("4, the first one that it tells", s.polynomial(1, 4) + " " + s.standard(1, 4), "15 15");
            Calls.due("3, the last one that it does not", s.polynomial(1, 3) + " " + s.standard(1, 3), "9 10");
            Calls.due("1000000", s.polynomial(1, 1000000), 5999991);
        });
        for (int letters = 2; letters <= 3; letters++) {
            int n = letters;
            Calls.test("24: how many standard words there are, for all degrees that are great enough, " + n, () -> {
                Renewed s = Calls.ring(5, n, 'g');
                for (int ideal : countedOnes(s)) {
                    int[][] leads = Calls.leadsOf(s, ideal, n);
                    for (int degree : new int[] {18, 19, 20, 21, 22, 23, 40, 300}) {
                        Calls.due(COUNTED[ideal] + " at " + degree, s.polynomial(ideal, degree),
                            counted(leads, n, degree));
                    }
                }
            });
        }
    }

    private static void dimensions() {
        Calls.test("25, 26: each dimension, from -1 to the letters", () -> {
            // letters, list, dimension and multiplicity
            String[][] due = {{"3", "1 000", "-1", "0"}, {"3", "1 400; 1 040; 1 004", "0", "64"},
                {"3", "1 100; 1 010; 1 001", "0", "1"}, {"3", "1 100; 1 010", "1", "1"}, {"3", "1 400; 1 040", "1", "16"},
                {"3", "1 100", "2", "1"}, {"3", "1 111", "2", "3"}, {"3", "1 110; 1 101", "2", "1"}, {"3", "", "3", "1"},
                {"2", "1 000", "-1", "0"}, {"2", "1 100; 1 010", "0", "1"}, {"2", "1 400; 1 040", "0", "16"},
                {"2", "1 100", "1", "1"}, {"2", "1 220", "1", "4"}, {"2", "", "2", "1"},
                {"3", "1 200; 1 110; 1 101; 1 020", "1", "2"}, {"3", "1 100, 1 000; 1 020, 1 001, 1 000", "1", "2"}};
            for (String[] d : due) {
                Renewed s = Calls.ring(7, Integer.parseInt(d[0]), 'g');
                int ideal = Calls.ideal(s, d[1]);
                Calls.due("dimension of " + d[1], s.dimension(ideal), d[2]);
                Calls.due("multiplicity of " + d[1], s.multiplicity(ideal), d[3]);
            }
        });
        Calls.test("26: the most, 216 standard words", () -> {
            Renewed s = Calls.ring(7, 3, 'g');
            Calls.due(s.multiplicity(Calls.sixthPowers(s)), 216);
        });
    }

    private static void rootsCounted() {
        Calls.test("27: of all none, of 0 all points, of each prime", () -> {
            for (int prime : PRIMES) {
                for (int letters = 2; letters <= 3; letters++) {
                    Renewed s = Calls.ring(prime, letters, 'd');
                    Calls.due("all", s.roots(Calls.ideal(s, "1 000")), 0);
                    Calls.due("0", s.roots(Calls.ideal(s, "")), letters == 2 ? prime * prime : prime * prime * prime);
                    Calls.due("x", s.roots(Calls.ideal(s, "1 100")), letters == 2 ? prime : prime * prime);
                    Calls.due("one", s.roots(Calls.ideal(s, letters == 2 ? "1 100, 1 000; 1 010"
                        : "1 100, 1 000; 1 010; 1 001, 1 000")), 1);
                }
            }
        });
        Calls.test("27: what is 0 at all points, though it is not 0", () -> {
            Renewed s = Calls.ring(3, 2, 'g');
            Calls.due(s.roots(Calls.ideal(s, "1 300, -1 100; 1 030, -1 010")), 9);
        });
        Calls.test("27: numbers modulo the prime alone", () -> {
            Renewed s = Calls.ring(7, 2, 'g');
            Calls.due("no square", s.roots(Calls.ideal(s, "1 200, 1 000")), 0);
            Calls.due("a square", s.roots(Calls.ideal(s, "1 200, -2 000")), 14);
        });
    }

    private static void tables() {
        Calls.test("28: the places i are 0 to the letters, j is 0 to 18: of the sixth powers", () -> {
            Renewed s = Calls.ring(2, 3, 'g');
            int sixth = Calls.sixthPowers(s);
            for (int i = 0; i <= 3; i++) {
                for (int j = 0; j <= 18; j++) {
                    int due = j != 6 * i ? 0 : i == 0 || i == 3 ? 1 : 3;
                    Calls.due(i + " " + j, s.table(sixth, i, j), due);
                }
            }
            Calls.due("length, regularity, depth", s.length(sixth) + " " + s.regularity(sixth) + " " + s.depth(sixth),
                "3 15 0");
        });
        Calls.test("28: i or j out of range", () -> {
            for (int letters = 2; letters <= 3; letters++) {
                int last = letters;
                Renewed s = Calls.zero(Calls.ring(2, letters, 'g'));
                Calls.due("the last places", s.table(0, last, 18), 0);
                for (int no : new int[] {Calls.LEAST, -1, letters + 1, 4, 5, Calls.MOST}) {
                    Calls.due("i " + no, Calls.of(() -> s.table(0, no, 0)), Calls.ARGUMENT);
                }
                for (int no : new int[] {Calls.LEAST, -1, 19, 20, Calls.MOST}) {
                    Calls.due("j " + no, Calls.of(() -> s.table(0, 0, no)), Calls.ARGUMENT);
                    Calls.due("j " + no, Calls.of(() -> s.table(0, last, no)), Calls.ARGUMENT);
                }
            }
        });
        for (int letters = 2; letters <= 3; letters++) {
            int n = letters;
            Calls.test("28: of 0 there is 1 at 0, 0 alone, of all nothing, " + letters + " letters", () -> {
                Renewed s = Calls.ring(5, n, 'd');
                Calls.ideal(s, "");
                Calls.ideal(s, "1 000");
                for (int i = 0; i <= n; i++) {
                    for (int j = 0; j <= 18; j++) {
                        Calls.due("0 " + i + " " + j, s.table(0, i, j), i == 0 && j == 0 ? 1 : 0);
                        Calls.due("all " + i + " " + j, s.table(1, i, j), 0);
                    }
                }
            });
        }
        Calls.test("28: all letters, the most at a place 3 of what is not words", () -> {
            Renewed s = Calls.ring(7, 3, 'd');
            Calls.ideal(s, "1 100, 3 010; 2 010, 1 001; 5 001");
            Calls.due(s.table(0, 0, 0) + " " + s.table(0, 1, 1) + " " + s.table(0, 2, 2) + " " + s.table(0, 3, 3), "1 3 3 1");
        });
    }

    private static void depths() {
        Calls.test("29, 30, 31: of 0 and of all", () -> {
            for (int letters = 2; letters <= 3; letters++) {
                Renewed s = Calls.ring(5, letters, 'd');
                Calls.ideal(s, "");
                Calls.ideal(s, "1 000");
                Calls.due("0", s.length(0) + " " + s.regularity(0) + " " + s.depth(0), "0 0 " + letters);
                Calls.due("all", s.length(1) + " " + s.regularity(1) + " " + s.depth(1), "-1 -1 -1");
            }
        });
        Calls.test("29, 30, 31: each length and each depth", () -> {
            String[][] due = {{"2", "1 400", "1 3 1"}, {"2", "1 400; 1 040", "2 6 0"}, {"2", "1 100", "1 0 1"},
                {"3", "1 001", "1 0 2"}, {"3", "1 200; 1 002", "2 2 1"}, {"3", "1 100; 1 010; 1 001", "3 0 0"},
                {"3", "1 200; 1 110; 1 101", "3 1 0"}, {"3", "1 400, 1 013; 1 040", "2 6 1"}};
            for (String[] d : due) {
                Renewed s = Calls.ring(3, Integer.parseInt(d[0]), 'g');
                Calls.ideal(s, d[1]);
                Calls.due(d[1], s.length(0) + " " + s.regularity(0) + " " + s.depth(0), d[2]);
            }
        });
    }

    private static void ofWords() {
        Calls.test("32: of 0 and of all; by its basis, not by what generates it", () -> {
            Renewed s = Calls.ring(5, 3, 'g');
            Calls.due("0", s.isOfWords(Calls.ideal(s, "")), true);
            Calls.due("all", s.isOfWords(Calls.ideal(s, "1 000")), true);
            Calls.due("sums", s.isOfWords(Calls.ideal(s, "1 100, 1 010; 1 100, 2 010")), true);
            Calls.due("the first one is no word", s.isOfWords(Calls.ideal(s, "1 100, 1 010; 1 030; 1 002")), false);
            Calls.due("the last one is no word", s.isOfWords(Calls.ideal(s, "1 010; 1 002; 1 300, 1 201")), false);
        });
    }

    /** Components by the words of the document: of the ideals of powers that are around it those that are around none. */
    private static String componentsBy(int[][] leads, int letters) {
        List<int[]> around = new ArrayList<>();
        for (int x = 0; x <= 6; x++) {
            for (int y = 0; y <= 6; y++) {
                for (int z = 0; z <= 6 && (letters > 2 || z == 0); z++) {
                    boolean isAround = true;
                    for (int[] w : leads) {
                        isAround &= x > 0 && w[0] >= x || y > 0 && w[1] >= y || z > 0 && w[2] >= z;
                    }
                    if (isAround) {
                        around.add(new int[] {x, y, z});
                    }
                }
            }
        }
        StringBuilder b = new StringBuilder();
        for (int[] one : around) {
            boolean isLeast = true;
            for (int[] other : around) {
                isLeast &= other == one || !isInside(other, one);
            }
            if (isLeast) {
                b.append(one[0]).append(one[1]).append(letters > 2 ? "" + one[2] : "").append(' ');
            }
        }
        return b.toString();
    }

    private static boolean isInside(int[] one, int[] other) {
        for (int letter = 0; letter < 3; letter++) {
            if (one[letter] > 0 && (other[letter] == 0 || other[letter] > one[letter])) {
                return false;
            }
        }
        return true;
    }

    private static String componentsTold(Renewed s, int ideal, int letters) {
        StringBuilder b = new StringBuilder();
        for (int i = 0; i < s.components(ideal); i++) {
            for (int letter = 0; letter < letters; letter++) {
                b.append(s.componentAt(ideal, i, letter));
            }
            b.append(' ');
        }
        return b.toString();
    }

    private static void components() {
        Calls.test("33, 34: one without letters for 0, none for all", () -> {
            for (int letters = 2; letters <= 3; letters++) {
                Renewed s = Calls.ring(3, letters, 'g');
                Calls.ideal(s, "");
                Calls.ideal(s, "1 000");
                Calls.due("0", s.components(0), 1);
                for (int letter = 0; letter < letters; letter++) {
                    int l = letter;
                    Calls.due("0", s.componentAt(0, 0, letter), 0);
                    Calls.due("not two", Calls.of(() -> s.componentAt(0, 1, l)), Calls.NONE);
                    Calls.due("all", Calls.of(() -> s.componentAt(1, 0, l)), Calls.NONE);
                }
                Calls.due("all", s.components(1), 0);
            }
        });
        Calls.test("33, 34: none can be left out, ordered by the powers of x, then y, then z", () -> {
            for (String list : WORDS) {
                Renewed s = Calls.ring(2, 3, 'g');
                Calls.ideal(s, list);
                Calls.due(list, componentsTold(s, 0, 3), componentsBy(Calls.leadsOf(s, 0, 3), 3));
            }
            for (String list : new String[] {"", "1 100", "1 400; 1 310; 1 220; 1 130", "1 220; 1 130", "1 400; 1 040"}) {
                Renewed s = Calls.ring(2, 2, 'g');
                Calls.ideal(s, list);
                Calls.due(list, componentsTold(s, 0, 2), componentsBy(Calls.leadsOf(s, 0, 2), 2));
            }
            Renewed s = Calls.ring(2, 3, 'd');
            int twelve = Calls.twelveWords(s);
            Calls.due("12 words", componentsTold(s, twelve, 3), componentsBy(Calls.leadsOf(s, twelve, 3), 3));
        });
        Calls.test("34: a power of 6, the greatest one", () -> {
            Renewed s = Calls.ring(2, 3, 'g');
            int sixth = Calls.sixthPowers(s);
            Calls.due(componentsTold(s, sixth, 3), "666 ");
        });
        Calls.test("34: index 0 to the last one, and not so many", () -> {
            Renewed s = Calls.ring(2, 3, 'g');
            Calls.ideal(s, "1 111");
            Calls.due("0", s.componentAt(0, 0, 2), 1);
            Calls.due("2", s.componentAt(0, 2, 0), 1);
            for (int no : new int[] {Calls.LEAST, -1, 3, 4, 511, 512, Calls.MOST}) {
                Calls.due("" + no, Calls.of(() -> s.componentAt(0, no, 0)), Calls.NONE);
            }
        });
        Calls.test("34: letters 0 to the last one", () -> {
            for (int letters = 2; letters <= 3; letters++) {
                Renewed s = Calls.ring(2, letters, 'g');
                Calls.ideal(s, letters == 2 ? "1 300; 1 020" : "1 300; 1 020; 1 002");
                Calls.due("0", s.componentAt(0, 0, 0), 3);
                Calls.due("the last one", s.componentAt(0, 0, letters - 1), 2);
                for (int no : new int[] {Calls.LEAST, -1, letters, 4, Calls.MOST}) {
                    Calls.due("" + no, Calls.of(() -> s.componentAt(0, 0, no)), Calls.ARGUMENT);
                }
            }
        });
    }

    private static void primes() {
        Calls.test("35, 36: the ideal of 0 has the empty one, that of all none", () -> {
            Renewed s = Calls.ring(3, 3, 'g');
            Calls.ideal(s, "");
            Calls.ideal(s, "1 000");
            Calls.due("0", s.primes(0) + " " + s.primeAt(0, 0), "1 0");
            Calls.due("not two", Calls.of(() -> s.primeAt(0, 1)), Calls.NONE);
            Calls.due("all", s.primes(1), 0);
            Calls.due("all", Calls.of(() -> s.primeAt(1, 0)), Calls.NONE);
        });
        Calls.test("35, 36: unlike ones, a sum of 1, 2 and 4, ordered by numbers", () -> {
            String[][] due = {{"1 100", "1 "}, {"1 010", "2 "}, {"1 001", "4 "}, {"1 400", "1 "},
                {"1 040", "2 "}, {"1 004", "4 "}, {"1 200; 1 004", "5 "}, {"1 020; 1 004", "6 "}, {"1 110", "1 2 "}, {"1 111", "1 2 4 "},
                {"1 400; 1 040; 1 004", "7 "}, {"1 210; 1 021; 1 102", "3 5 6 7 "}, {"1 110; 1 011; 1 101", "3 5 6 "},
                {"1 220; 1 310; 1 130", "1 2 3 "}, {"1 200; 1 110; 1 101", "1 7 "}};
            for (String[] d : due) {
                Renewed s = Calls.ring(2, 3, 'd');
                Calls.ideal(s, d[0]);
                StringBuilder b = new StringBuilder();
                for (int i = 0; i < s.primes(0); i++) {
                    b.append(s.primeAt(0, i)).append(' ');
                }
                Calls.due(d[0], b, d[1]);
                for (int no : new int[] {Calls.LEAST, -1, s.primes(0), 8, 32, Calls.MOST}) {
                    Calls.due(d[0] + " " + no, Calls.of(() -> s.primeAt(0, no)), Calls.NONE);
                }
            }
        });
        Calls.test("36: whatever the powers are, up to 6", () -> {
            for (int x = 0; x <= 6; x += 2) {
                for (int y = 0; y <= 6; y += 2) {
                    for (int z = 0; z <= 6; z += 2) {
                        Renewed s = Calls.ring(2, 3, 'g');
                        int sum = Calls.ideal(s, "");
                        int due = 0;
                        int[] powers = {x, y, z};
                        for (int letter = 0; letter < 3; letter++) {
                            int half = powers[letter] / 2;
                            if (half > 0) {
                                s.term(1, letter == 0 ? half : 0, letter == 1 ? half : 0, letter == 2 ? half : 0);
                                s.push();
                                int root = s.ideal();
                                sum = s.join('+', sum, s.join('*', root, root));
                                due += 1 << letter;
                            }
                        }
                        Calls.due("" + x + y + z, s.primes(sum) + " " + s.primeAt(sum, 0), "1 " + due);
                        Calls.due("" + x + y + z, componentsTold(s, sum, 3), "" + x + y + z + " ");
                    }
                }
            }
        });
    }

    private static void radicals() {
        Calls.test("37: of 0 and of all", () -> {
            Renewed s = Calls.ring(3, 2, 'g');
            Calls.ideal(s, "");
            Calls.ideal(s, "1 000");
            Calls.due("0", s.radical(0), 2);
            Calls.due("0", s.size(2), 0);
            Calls.due("all", s.radical(1), 3);
            Calls.due("all", Calls.basis(s, 3, 2, 'g'), "1.000");
        });
        Calls.test("37: each power at most 1", () -> {
            String[][] due = {{"1 400", "100"}, {"1 220", "110"}, {"1 211", "111"}, {"1 400; 1 310", "100"},
                {"1 210; 1 021; 1 102", "011 101 110"}, {"1 004; 1 130; 1 211", "001 110"}, {"1 110; 1 001", "001 110"}};
            for (String[] d : due) {
                Renewed s = Calls.ring(2, 3, 'g');
                Calls.ideal(s, d[0]);
                Calls.due(d[0], Calls.leads(s, s.radical(0), 3), d[1]);
                Calls.due("its own", s.isSame(s.radical(1), 1), true);
            }
            Renewed s = Calls.ring(2, 3, 'g');
            Calls.due("sixth powers", Calls.leads(s, s.radical(Calls.sixthPowers(s)), 3), "001 010 100");
            Calls.due("the number", s.ideals(), 9);
        });
        Calls.test("37: the number 11, the last one", () -> {
            Renewed s = Calls.ring(2, 3, 'g');
            for (int i = 0; i < 11; i++) {
                Calls.ideal(s, "1 200");
            }
            Calls.due("the last one", s.radical(10), 11);
            Calls.due("no more", Calls.of(() -> s.radical(10)), Calls.STATE);
        });
    }

    private static void shares() {
        Calls.test("46, 47: none", () -> {
            Calls.due(Calls.of(() -> new Renewed().gradedShare()), Calls.NUMBERS);
            Calls.due(Calls.of(() -> new Renewed().meanSize()), Calls.NUMBERS);
            Renewed s = Calls.zero(new Renewed());
            s.begin(2, 2, 'g');
            Calls.due("gone", Calls.of(s::gradedShare), Calls.NUMBERS);
            Calls.due("gone", Calls.of(s::meanSize), Calls.NUMBERS);
        });
        Calls.test("46: both converted to float, of 1 to 12 ideals", () -> {
            for (int number = 1; number <= 12; number++) {
                for (int graded = 0; graded <= number; graded++) {
                    Renewed s = Calls.ring(3, 2, 'g');
                    for (int i = 0; i < number; i++) {
                        Calls.ideal(s, i < graded ? "1 200, 1 110" : "1 200, 1 010");
                    }
                    Calls.due(graded + " of " + number, s.gradedShare(), (float) graded / (float) number);
                }
            }
        });
        Calls.test("46: of 0 and of all they are graded", () -> {
            Renewed s = Calls.zero(new Renewed());
            Calls.due("0", s.gradedShare(), 1.0f);
            Calls.ideal(s, "1 000");
            Calls.due("all", s.gradedShare(), 1.0f);
        });
        Calls.test("47: both converted to double: 0, 12, and what is no whole number", () -> {
            Renewed s = Calls.zero(Calls.ring(3, 3, 'g'));
            Calls.due("0", s.meanSize(), 0.0);
            s.begin(3, 3, 'g');
            Calls.twelveWords(s);
            Calls.due("4, 4, 8, 4 and 12", s.meanSize(), (4 + 4 + 8 + 4 + 12) / 5.0);
            Calls.ideal(s, "");
            Calls.due("and 0", s.meanSize(), 32.0 / 6.0);
            Calls.ideal(s, "1 100");
            Calls.due("and 1", s.meanSize(), 33.0 / 7.0);
        });
    }

    private static void sums() {
        Calls.test("46, 47, 48: of the ideals that there are now, and of their bases alone", () -> {
            Renewed s = Calls.ring(5, 3, 'g');
            for (int i = 0; i < 12; i++) {
                Calls.ideal(s, "1 400; 1 040, 1 100; 1 004; 1 111");
            }
            Calls.due("12 large ones", s.gradedShare() + " " + s.meanSize(), "0.0 5.0");
            s.begin(5, 3, 'g');
            Calls.due("none", s.checksum(), 7);
            Calls.ideal(s, "1 100");
            Calls.due("one", s.gradedShare() + " " + s.meanSize() + " " + s.checksum(), "1.0 1.0 " + (31 * 7 + 12));
            Calls.ideal(s, "");
            Calls.due("and 0", s.gradedShare() + " " + s.meanSize() + " " + s.checksum(), "1.0 0.5 " + (31 * 7 + 12));
        });
        Calls.test("48: 7 at first, and of ideals without polynomials", () -> {
            Renewed s = new Renewed();
            Calls.due("none", s.checksum(), 7);
            Calls.fill(s);
            Calls.due("12 of 0", s.checksum(), 7);
            s.begin(5, 3, 'g');
            Calls.due("begun again", s.checksum(), 7);
        });
        Calls.test("48: for each ideal, polynomial and word, from the leading one on, wrapping around", () -> {
            for (char order : new char[] {'g', 'd'}) {
                Renewed s = Calls.ring(7, 3, order);
                Calls.ideal(s, "3 200, 1 110, 2 001; 5 011, 1 010; 6 003, 4 001");
                Calls.ideal(s, "1 000");
                Calls.twelveWords(s);
                for (int i = 0; i < 4; i++) {
                    Calls.ideal(s, "1 400, 2 310, 3 220, 4 211, 5 111, 6 013, 1 003, 2 001, 3 000");
                }
                BigInteger sum = BigInteger.valueOf(7);
                for (int i = 0; i < s.ideals(); i++) {
                    for (String polynomial : Calls.basis(s, i, 3, order).split("; ")) {
                        for (String t : polynomial.split(" ")) {
                            int add = t.charAt(0) - '0' + 11 * (t.charAt(2) - '0') + 17 * (t.charAt(3) - '0')
                                + 23 * (t.charAt(4) - '0');
                            sum = sum.multiply(BigInteger.valueOf(31)).add(BigInteger.valueOf(add));
                        }
                    }
                }
                Calls.due("it is far beyond", sum.bitLength() > 200, true);
                Calls.due("" + order, s.checksum(), sum.longValue());
            }
        });
    }

    private static void sound() {
        Calls.test("49: without ideals, with those of 0 and of all, with 12", () -> {
            for (int prime : PRIMES) {
                for (int letters = 2; letters <= 3; letters++) {
                    Renewed s = Calls.ring(prime, letters, 'd');
                    Calls.due("none", s.isSound(), true);
                    Calls.ideal(s, "");
                    Calls.due("0", s.isSound(), true);
                    Calls.ideal(s, "1 000");
                    Calls.due("all", s.isSound(), true);
                    for (int i = 2; i < 12; i++) {
                        Calls.ideal(s, COUNTED[i - 1]);
                    }
                    Calls.due("twelve", s.ideals() + " " + s.isSound(), "12 true");
                }
            }
        });
        Calls.test("49: with bases of 4, of more, of 12, and of the degree 6", () -> {
            Renewed s = Calls.ring(2, 3, 'g');
            Calls.twelveWords(s);
            Calls.ideal(s, "1 210; 1 021, 1 300; 1 003");
            Calls.due("12 words", s.isSound(), true);
            s.begin(5, 3, 'g');
            Calls.sixthPowers(s);
            Calls.due("the degree 6", s.isSound(), true);
            Calls.due("nothing is changed", s.ideals(), 8);
        });
    }
}
