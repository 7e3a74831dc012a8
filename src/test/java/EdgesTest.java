import java.io.IOException;
import java.nio.file.Files;
import java.nio.file.Path;
import java.util.List;

/**
 * A test for each sentence of the document that names a boundary: the least and the greatest value that is allowed
 * and the one beyond it on either side, nothing there, all full, numbers taken modulo the prime. Promises 1 to 19;
 * the next ones are in CountedEdgesTest and FacesEdgesTest, what is refused is in RefusedTest.
 */
public final class EdgesTest {
    private static final int[] PRIMES = {2, 3, 5, 7};
    private static final char[] KINDS = {'+', '*', '&', ':', '~'};

    public static void main(String[] arguments) throws IOException {
        newObject();
        orders();
        begins();
        terms();
        numbers();
        lists();
        generated();
        sizes(Files.readAllLines(Path.of("src/test/data/edges.txt")));
        onTheWay();
        basesLookedAt();
        numbersOf();
        belonging();
        radicalMembers();
        comparing();
        nothingAndAll();
        lettersGone();
        lastCall();
        Calls.end();
    }

    private static void newObject() {
        Calls.test("1: the ring of x and y", () -> {
            Renewed s = new Renewed();
            Calls.due("x", s.term(1, 1, 0, 0), 1);
            Calls.due("y", s.term(1, 0, 1, 0), 2);
            Calls.due("z", Calls.of(() -> s.term(1, 0, 0, 1)), Calls.ARGUMENT);
            s.wipe();
            s.ideal();
            Calls.due("no third letter", Calls.of(() -> s.standardAt(0, 0, 2)), Calls.ARGUMENT);
            Calls.due("words of the degree 1", s.standard(0, 1), 2);
        });
        Calls.test("1: modulo 2", () -> {
            Renewed s = new Renewed();
            Calls.due(Calls.polynomial(s, 2), "xy");
            Calls.due(s.term(3, 1, 1, 0), 1);
            Calls.due(s.term(-1, 1, 1, 0), 0);
            s.ideal();
            Calls.due("4 points", s.roots(0), 4);
        });
        Calls.test("1: in the order g", () -> Calls.due(firstWords(Calls.zero(new Renewed()), 2, 10), rising(2, 'g', 10)));
        Calls.test("1: all that a new object answers is as after begin with 2, 2 and g", () -> {
            String[] lists = {"1 200, 1 010", "1 110, 1 100; 1 030", "1 300; 1 120", "1 100; 1 010", ""};
            for (int pair = 0; pair < 25; pair++) {
                String one = lists[pair / 5];
                String other = lists[pair % 5];
                Calls.due(one + " with " + other, made(new Renewed(), one, other), made(Calls.ring(2, 2, 'g'), one, other));
            }
            String no = " " + Calls.REFUSED + " ";
            Calls.due("(x^2 + y) and (x, y^3)", made(new Renewed(), lists[0], lists[1]), "2 3 4 5 6 7 8 " + Calls.ARGUMENT
                + " | 1.200 1.010" + no + "2" + no + "| 1.100; 1.030 2 1 1 | 1.010; 1.100 0 1 1 "
                + "| 1.300 1.110; 1.230 1.040" + no + "2" + no + "| 1.300 1.110; 1.220 1.030" + no + "2" + no
                + "| 1.200 1.010" + no + "2" + no + "| 1.200 1.010" + no + "2" + no + "|  0 4 1 |  0 4 1 false 1 true");
        });
        Calls.test("1: without ideals", () -> {
            Renewed s = new Renewed();
            Calls.due("ideals", s.ideals(), 0);
            Calls.due("the first one", Calls.of(() -> s.size(0)), Calls.INDEX);
            Calls.due("sum", s.checksum(), 7L);
        });
        Calls.test("1: without faces", () -> {
            Renewed s = new Renewed();
            Calls.due("the empty one", s.faces(-1), 0);
            Calls.due("a facet", Calls.of(() -> s.facetAt(0)), Calls.NONE);
            Calls.due("all", s.clear(), 0);
        });
        Calls.test("1: the polynomial is 0 and the list is empty", () -> {
            Renewed s = new Renewed();
            Calls.due("polynomial", s.wipe(), 0);
            Calls.due("list", s.dropList(), 0);
        });
        Calls.test("1: objects have nothing in common", () -> {
            Renewed s = new Renewed();
            Renewed t = Calls.ring(7, 3, 'd');
            Calls.ideal(t, "3 101, 1 000");
            t.put(63);
            Calls.poly(t, "1 001");
            Calls.due("ideals", s.ideals(), 0);
            Calls.due("faces", s.clear(), 0);
            Calls.due("polynomial", Calls.polynomial(s, 2), "xy");
            Calls.due("ideals", t.ideals(), 1);
        });
    }

    /** Two ideals, all that can be made of them, and some of what can be told of all these. */
    private static String made(Renewed s, String one, String other) {
        StringBuilder b = new StringBuilder();
        Calls.ideal(s, one);
        Calls.ideal(s, other);
        for (char kind : KINDS) {
            b.append(Calls.of(() -> s.join(kind, 0, 1))).append(' ');
        }
        for (int letter = 0; letter < 3; letter++) {
            int l = letter;
            b.append(Calls.of(() -> s.without(0, l))).append(' ');
        }
        for (int i = 0; i < s.ideals(); i++) {
            int ideal = i;
            b.append("| ").append(Calls.basis(s, i, 2, 'g')).append(' ').append(Calls.of(() -> s.regularity(ideal)));
            b.append(' ').append(s.roots(i)).append(' ').append(Calls.of(() -> s.components(ideal))).append(' ');
        }
        Calls.poly(s, "1 010");
        return b.append(s.inRadical(0)).append(' ').append(s.rest(1)).append(' ').append(s.isSound()).toString();
    }

    /** The first standard words of the ideal 0, by rising words. */
    private static String firstWords(Renewed s, int letters, int number) {
        StringBuilder b = new StringBuilder();
        for (int i = 0; i < number; i++) {
            for (int letter = 0; letter < letters; letter++) {
                b.append(s.standardAt(0, i, letter)).append(letter < letters - 1 ? "," : " ");
            }
        }
        return b.toString();
    }

    private static String rising(int letters, char order, int number) {
        List<int[]> words = Calls.words(letters, letters == 2 ? 14 : 8, order);
        StringBuilder b = new StringBuilder();
        for (int i = 1; i <= number; i++) {
            int[] w = words.get(words.size() - i);
            b.append(w[0]).append(',').append(w[1]).append(letters > 2 ? "," + w[2] : "").append(' ');
        }
        return b.toString();
    }

    private static void orders() {
        for (int letters = 2; letters <= 3; letters++) {
            for (char order : new char[] {'g', 'd'}) {
                int n = letters;
                Calls.test("terms: words of " + letters + " letters in the order " + order, () ->
                    Calls.due(firstWords(Calls.zero(Calls.ring(3, n, order)), n, 100), rising(n, order, 100)));
                Calls.test("terms: the leading word is the greatest one, " + letters + " " + order, () -> {
                    List<int[]> words = Calls.words(n, 4, order);
                    for (int i = 0; i + 1 < words.size(); i++) {
                        Renewed s = Calls.ring(3, n, order);
                        int[] a = words.get(i);
                        int[] b = words.get(i + 1);
                        s.term(1, b[0], b[1], b[2]);
                        s.term(2, a[0], a[1], a[2]);
                        s.push();
                        s.ideal();
                        Calls.due(a[0] + " " + a[1] + " " + a[2], Calls.leads(s, 0, n), "" + a[0] + a[1] + a[2]);
                    }
                });
            }
        }
    }

    private static void begins() {
        for (int prime : PRIMES) {
            Calls.test("2: prime " + prime, () -> {
                for (int letters = 2; letters <= 3; letters++) {
                    Renewed s = Calls.ring(prime, letters, 'g');
                    Calls.poly(s, "-1 100, 1 000");
                    Calls.due(Calls.polynomial(s, prime),
                        (letters == 2 ? "xy " : "xyz ") + (prime - 1) + ".100 1.000");
                    s.ideal();
                    Calls.due("points", s.roots(0), letters == 2 ? prime * prime : prime * prime * prime);
                }
            });
        }
        Calls.test("2: other primes, and what is none", () -> {
            Renewed s = new Renewed();
            for (int no : new int[] {Calls.LEAST, -7, -5, -3, -2, -1, 0, 1, 4, 6, 8, 9, 10, 11, 13, 14, Calls.MOST}) {
                Calls.due("" + no, Calls.of(() -> s.begin(no, 2, 'g')), Calls.ARGUMENT);
            }
        });
        Calls.test("2: letters 2 or 3", () -> {
            Renewed s = new Renewed();
            Calls.due("2", s.begin(3, 2, 'd'), 0);
            Calls.due("no z", Calls.of(() -> s.term(1, 0, 0, 1)), Calls.ARGUMENT);
            Calls.due("3", s.begin(3, 3, 'd'), 0);
            Calls.due("z", s.term(1, 0, 0, 1), 1);
            for (int no : new int[] {Calls.LEAST, -3, -2, -1, 0, 1, 4, 5, Calls.MOST}) {
                Calls.due("" + no, Calls.of(() -> s.begin(3, no, 'g')), Calls.ARGUMENT);
            }
        });
        Calls.test("2: order g or d", () -> {
            Renewed s = new Renewed();
            for (int no : new int[] {0, 1, 'c', 'e', 'f', 'h', 'G', 'D', 'l', 'p', 255, 256 + 'g', 65535}) {
                Calls.due("" + no, Calls.of(() -> s.begin(3, 3, (char) no)), Calls.ARGUMENT);
            }
        });
        Calls.test("2: returns how many ideals there were, none, some and 12", () -> {
            Renewed s = new Renewed();
            Calls.due("none", s.begin(2, 2, 'g'), 0);
            s.ideal();
            Calls.due("one", s.begin(2, 2, 'g'), 1);
            Calls.fill(s);
            Calls.due("twelve", s.begin(2, 2, 'g'), 12);
            Calls.due("none again", s.begin(2, 2, 'g'), 0);
        });
        Calls.test("2: ideals are gone", () -> {
            Renewed s = Calls.ring(5, 3, 'g');
            Calls.ideal(s, "1 100");
            s.begin(5, 3, 'g');
            Calls.due(s.ideals(), 0);
            Calls.due(Calls.of(() -> s.size(0)), Calls.INDEX);
        });
        Calls.test("2: the list is gone", () -> {
            Renewed s = Calls.ring(5, 3, 'g');
            Calls.list(s, "1 100; 1 010; 1 001; 1 111");
            s.begin(5, 3, 'g');
            Calls.due(s.dropList(), 0);
            Calls.due(s.size(s.ideal()), 0);
        });
        Calls.test("2: the polynomial is gone", () -> {
            Renewed s = Calls.ring(5, 3, 'g');
            Calls.poly(s, "1 100, 2 010");
            s.begin(5, 3, 'g');
            Calls.due(Calls.of(s::push), Calls.REFUSED);
            Calls.due(s.wipe(), 0);
        });
        Calls.test("2: faces stay", () -> {
            Renewed s = new Renewed();
            s.begin(3, 2, 'g');
            Calls.due("none", s.faces(-1), 0);
            s.put(5);
            s.put(32);
            s.begin(7, 3, 'd');
            Calls.due(s.facetAt(0) + " " + s.facetAt(1), "5 32");
            Calls.due(s.clear(), 5);
        });
        Calls.test("2: another ring has its own tables and words", () -> {
            Renewed s = Calls.ring(5, 3, 'g');
            Calls.ideal(s, "1 200; 1 020; 1 002");
            Calls.due("before", s.table(0, 3, 6) + " " + s.regularity(0) + " " + s.depth(0), "1 3 0");
            s.begin(5, 2, 'd');
            Calls.ideal(s, "1 110");
            Calls.due("then", s.table(0, 1, 2) + " " + s.regularity(0) + " " + s.depth(0), "1 1 1");
            Calls.due("no place 3", Calls.of(() -> s.table(0, 3, 6)), Calls.ARGUMENT);
        });
    }

    private static void terms() {
        Calls.test("3: a power from 0 to 4", () -> {
            Renewed s = Calls.ring(3, 3, 'g');
            Calls.due("0", s.term(1, 0, 0, 0), 1);
            Calls.due("x to 4", s.term(1, 4, 0, 0), 2);
            Calls.due("y to 4", s.term(1, 0, 4, 0), 3);
            Calls.due("z to 4", s.term(1, 0, 0, 4), 4);
            for (int no : new int[] {Calls.LEAST, -2, -1, 5, 6, 4096, Calls.MOST}) {
                Calls.due("x " + no, Calls.of(() -> s.term(1, no, 0, 0)), Calls.ARGUMENT);
                Calls.due("y " + no, Calls.of(() -> s.term(1, 0, no, 0)), Calls.ARGUMENT);
                Calls.due("z " + no, Calls.of(() -> s.term(1, 0, 0, no)), Calls.ARGUMENT);
            }
        });
        Calls.test("3: the degree is more than 4", () -> {
            for (int x = 0; x <= 4; x++) {
                for (int y = 0; y <= 4; y++) {
                    for (int z = 0; z <= 4; z++) {
                        Renewed s = Calls.ring(3, 3, 'd');
                        int a = x;
                        int b = y;
                        int c = z;
                        Calls.due("" + x + y + z, Calls.of(() -> s.term(1, a, b, c)),
                            x + y + z <= 4 ? 1 : Calls.ARGUMENT);
                    }
                }
            }
        });
        Calls.test("3: powers below 0 are not made good by others, nor is a sum that wraps around", () -> {
            Renewed s = Calls.ring(3, 3, 'd');
            int[][] no = {{-1, 5, 0}, {4, -1, 1}, {-1, 1, 1}, {1, 1, -1}, {Calls.MOST, Calls.MOST, 2},
                {Calls.LEAST, Calls.LEAST, 0}, {Calls.MOST, 1, 0}, {Calls.LEAST, 1, Calls.MOST}};
            for (int[] w : no) {
                Calls.due(w[0] + " " + w[1] + " " + w[2], Calls.of(() -> s.term(1, w[0], w[1], w[2])), Calls.ARGUMENT);
            }
            Calls.due("nothing has come", s.wipe(), 0);
        });
        Calls.test("3: a power of a letter that there is not", () -> {
            Renewed s = Calls.ring(3, 2, 'd');
            Calls.due("z", Calls.of(() -> s.term(1, 0, 0, 1)), Calls.ARGUMENT);
            Calls.due("xz", Calls.of(() -> s.term(1, 1, 0, 1)), Calls.ARGUMENT);
            Calls.due("z to 4", Calls.of(() -> s.term(1, 0, 0, 4)), Calls.ARGUMENT);
            Calls.due("z to 0", s.term(1, 1, 3, 0), 1);
        });
        Calls.test("3: returns how many words, up to all of them", () -> {
            for (int letters = 2; letters <= 3; letters++) {
                Renewed s = Calls.ring(7, letters, 'g');
                int number = 0;
                for (int[] w : Calls.words(letters, 4, 'd')) {
                    number++;
                    Calls.due("grows", s.term(number % 7 == 0 ? 1 : number, w[0], w[1], w[2]), number);
                }
                Calls.due("all", number, letters == 2 ? 15 : 35);
                for (int[] w : Calls.words(letters, 4, 'g')) {
                    Calls.due("stays or goes", s.term(1, w[0], w[1], w[2]) <= number, true);
                }
            }
        });
        Calls.test("3: a word that goes out is no word of the polynomial", () -> {
            for (int prime : PRIMES) {
                Renewed s = Calls.ring(prime, 3, 'g');
                Calls.due("first", s.term(1, 1, 1, 1), 1);
                Calls.due("others", s.term(1, 0, 0, 0), 2);
                for (int k = 2; k < prime; k++) {
                    Calls.due("still", s.term(1, 1, 1, 1), 2);
                }
                Calls.due("gone", s.term(1, 1, 1, 1), 1);
                Calls.due("0", s.term(-1, 0, 0, 0), 0);
                Calls.due("nothing to push", Calls.of(s::push), Calls.REFUSED);
            }
        });
        Calls.test("4: how many words it had: none, some, all", () -> {
            Renewed s = Calls.ring(7, 3, 'g');
            Calls.due("none", s.wipe(), 0);
            s.term(1, 0, 0, 0);
            Calls.due("one", s.wipe(), 1);
            for (int[] w : Calls.words(3, 4, 'g')) {
                s.term(1, w[0], w[1], w[2]);
            }
            Calls.due("all", s.wipe(), 35);
            Calls.due("none is left", s.wipe(), 0);
            Calls.due("it is 0", Calls.polynomial(s, 7), "xyz");
        });
    }

    private static void numbers() {
        int[] numbers = {Calls.LEAST, Calls.LEAST + 1, -1000000007, -8, -7, -6, -5, -4, -3, -2, -1, 0, 1, 2, 3, 4, 5, 6,
            7, 8, 9, 10, 14, 15, 21, 1000000007, Calls.MOST - 1, Calls.MOST};
        for (int prime : PRIMES) {
            Calls.test("3: any number, taken modulo " + prime, () -> {
                for (int number : numbers) {
                    Renewed s = Calls.ring(prime, 2, 'g');
                    int due = (int) (((long) number % prime + prime) % prime);
                    Calls.due("words with " + number, s.term(number, 2, 1, 0), due == 0 ? 0 : 1);
                    Calls.due("" + number, Calls.polynomial(s, prime), "xy" + (due == 0 ? "" : " " + due + ".210"));
                }
            });
            Calls.test("3: numbers of a word are added modulo " + prime, () -> {
                for (int one : numbers) {
                    Renewed s = Calls.ring(prime, 3, 'd');
                    s.term(one, 0, 1, 1);
                    int words = s.term(Calls.MOST, 0, 1, 1);
                    int due = (int) ((((long) one + Calls.MOST) % prime + prime) % prime);
                    Calls.due("words with " + one, words, due == 0 ? 0 : 1);
                    s.term(1, 2, 0, 0);
                    s.push();
                    s.ideal();
                    Calls.due("" + one, s.numberOf(0, 0, 0, 1, 1), due);
                }
            });
        }
    }

    private static void lists() {
        Calls.test("5: the list grows to 4, and not to 5", () -> {
            Renewed s = Calls.ring(5, 3, 'g');
            for (int i = 1; i <= 4; i++) {
                s.term(i, i, 0, 0);
                Calls.due(s.push(), i);
            }
            s.term(1, 0, 1, 0);
            Calls.due("the fifth one", Calls.of(s::push), Calls.STATE);
            Calls.due("4 are there", s.dropList(), 4);
            Calls.due("now it goes", s.push(), 1);
        });
        Calls.test("5: the polynomial is 0 then", () -> {
            Renewed s = Calls.ring(5, 3, 'g');
            Calls.poly(s, "1 100, 2 010, 3 001, 4 000");
            s.push();
            Calls.due(Calls.polynomial(s, 5), "xyz");
            Calls.due(s.wipe(), 0);
        });
        Calls.test("5: it is 0: never touched, wiped, gone out, pushed, or its rest", () -> {
            Renewed s = Calls.ring(5, 3, 'g');
            Calls.due("untouched", Calls.of(s::push), Calls.REFUSED);
            s.term(1, 1, 0, 0);
            s.wipe();
            Calls.due("wiped", Calls.of(s::push), Calls.REFUSED);
            Calls.poly(s, "2 100, 3 100");
            Calls.due("gone out", Calls.of(s::push), Calls.REFUSED);
            Calls.poly(s, "1 100");
            s.push();
            Calls.due("pushed", Calls.of(s::push), Calls.REFUSED);
            s.ideal();
            Calls.poly(s, "1 110");
            s.rest(0);
            Calls.due("its rest", Calls.of(s::push), Calls.REFUSED);
        });
        Calls.test("6: how many it had: none, one, 4", () -> {
            Renewed s = new Renewed();
            Calls.due("none", s.dropList(), 0);
            Calls.list(s, "1 100");
            Calls.due("one", s.dropList(), 1);
            Calls.list(s, "1 100; 1 100; 1 010; 1 000");
            Calls.due("four", s.dropList(), 4);
            Calls.due("none then", s.dropList(), 0);
            Calls.due("nor in the ideal", s.size(s.ideal()), 0);
        });
        Calls.test("6: the polynomial and the ideals stay", () -> {
            Renewed s = Calls.ring(3, 2, 'g');
            Calls.ideal(s, "1 100");
            Calls.list(s, "1 010; 1 110");
            Calls.poly(s, "2 110, 1 000");
            s.dropList();
            Calls.due(Calls.polynomial(s, 3), "xy 2.110 1.000");
            Calls.due(s.ideals(), 1);
        });
    }

    private static void generated() {
        Calls.test("7: the list, perhaps empty: that of 0, which has no polynomials", () -> {
            for (int prime : PRIMES) {
                Renewed s = Calls.ring(prime, 3, 'd');
                Calls.due("number", s.ideal(), 0);
                Calls.due("size", s.size(0), 0);
                Calls.due("words", s.standard(0, 40), 861);
            }
        });
        Calls.test("7: the ideal of all has 1 alone", () -> {
            for (String all : new String[] {"3 000", "1 100; 1 100, 1 000", "1 110, 1 000; 1 100", "2 000; 1 400; 1 004"}) {
                Renewed s = Calls.ring(5, 3, 'g');
                Calls.due(all, Calls.basis(s, Calls.ideal(s, all), 3, 'g'), "1.000");
            }
        });
        Calls.test("7: each of 4 polynomials counts", () -> {
            Renewed s = Calls.ring(5, 3, 'g');
            Calls.due(Calls.leads(s, Calls.ideal(s, "1 400; 1 040; 1 004; 1 111"), 3), "111 004 040 400");
            Calls.due("one alone", Calls.leads(s, Calls.ideal(s, "4 013"), 3), "013");
        });
        Calls.test("7: the list is empty then, the polynomial stays", () -> {
            Renewed s = Calls.ring(3, 2, 'g');
            Calls.list(s, "1 010; 1 110");
            Calls.poly(s, "2 110, 1 000");
            s.ideal();
            Calls.due("list", s.dropList(), 0);
            Calls.due("polynomial", Calls.polynomial(s, 3), "xy 2.110 1.000");
        });
        Calls.test("7: returns its number, 0 to 11; 8: how many there are, 0 to 12", () -> {
            Renewed s = new Renewed();
            for (int i = 0; i < 12; i++) {
                Calls.due("ideals", s.ideals(), i);
                Calls.due("number", Calls.ideal(s, i % 2 == 0 ? "1 100" : ""), i);
            }
            Calls.due("ideals", s.ideals(), 12);
            Calls.due("a thirteenth", Calls.of(s::ideal), Calls.STATE);
            Calls.due("ideals", s.ideals(), 12);
            for (int i = 0; i < 12; i++) {
                Calls.due("each stays", s.size(i), 1 - i % 2);
            }
        });
        for (String kind : new String[] {"+", "*", "&", ":", "~", "w", "r", "i"}) {
            Calls.test("ideals: at most 12, numbered from 0: " + kind + " makes the number 11, and none beyond", () -> {
                Renewed s = Calls.ring(3, 3, 'g');
                for (int i = 0; i < 11; i++) {
                    Calls.ideal(s, "1 101");
                }
                for (int due = 11; due <= 12; due++) {
                    Object made = Calls.of(() -> kind.equals("w") ? s.without(10, 1) : kind.equals("r") ? s.radical(10)
                        : kind.equals("i") ? s.ideal() : s.join(kind.charAt(0), 10, 9));
                    Calls.due("number", made, due < 12 ? due : Calls.STATE);
                    Calls.due("ideals", s.ideals(), 12);
                }
                Calls.due("the others stay", Calls.leads(s, 0, 3) + " " + Calls.leads(s, 10, 3), "101 101");
            });
        }
        Calls.test("ideals: no word but the leading one is divided by a leading word, with the number 1 there", () -> {
            Renewed s = Calls.ring(7, 3, 'g');
            Calls.ideal(s, "3 200, 1 110, 2 001; 5 110, 1 010; 6 010, 4 001");
            for (int i = 0; i < s.size(0); i++) {
                Calls.due("number", s.numberOf(0, i, s.lead(0, i, 0), s.lead(0, i, 1), s.lead(0, i, 2)), 1);
            }
            Calls.due(Calls.basis(s, 0, 3, 'g'), "1.010 3.001; 1.002 5.001; 1.101 3.001; 1.200 6.001");
        });
    }

    /** Bases of 12 and of 13, of the degree 6 and of 7, by each call that makes one, told by Singular. */
    private static void sizes(List<String> lines) {
        for (String line : lines) {
            String[] p = line.split("\\|");
            String[] head = p[0].trim().split(" ");
            int letters = Integer.parseInt(head[1]);
            char order = head[2].charAt(0);
            Calls.test("ideals: more than 12 polynomials, or a degree of more than 6, is refused: " + line, () -> {
                Renewed s = Calls.ring(Integer.parseInt(head[0]), letters, order);
                Calls.due(made(s, p[1].trim(), p[2], p[3], letters, order), p[5].trim());
                Calls.due("list", s.dropList(), 0);
            });
        }
    }

    /** Ideals that are kept, though there is more, or of higher degrees, while they are made; told by Singular. */
    private static void onTheWay() {
        String[][] due = {
            {"5 2 g", "ideal", "1 400; 1 310, 1 040; 1 100, 1 010, 1 000", "", "1.000"},
            {"5 3 d", "+", "2 103, 4 000, 2 310, 4 300", "1 400", "1.000"},
            {"2 3 d", "+", "1 021, 1 100, 1 200, 1 300", "1 220; 1 004, 1 400", "1.300 1.021 1.200 1.100; "
                + "1.121 1.004 1.021 1.100; 1.220; 1.041 1.120; 1.104 1.004 1.021 1.200 1.100; 1.006 1.023 1.102; 1.024"},
            {"5 2 g", "*", "2 220, 4 200; 4 310", "3 400; 2 010", "1.310; 1.230 2.210; 1.600"},
            {"2 2 g", "*", "1 030; 1 300, 1 020; 1 120", "1 100; 1 040", "1.130; 1.220; 1.400 1.120; 1.060"},
            {"7 3 g", "*", "2 100, 2 000; 4 130", "3 200; 2 013; 2 210", "1.300 1.200; 1.113 1.013; 1.230; 1.033"},
            {"2 3 g", ":", "1 400; 1 030", "1 012, 1 010, 1 102, 1 210; 1 202, 1 200, 1 100; 1 400, 1 300, 1 100",
                "1.030; 1.400; 1.320"},
            {"7 3 g", ":", "3 040, 6 400, 6 010; 1 202, 3 201; 3 310, 2 000",
                "1 101; 1 112, 6 400, 6 211; 6 010, 2 100, 5 001", "1.002 3.001; 1.310 3.000; 1.400 4.040 1.010; "
                + "1.050 2.020 1.100"},
            {"5 3 g", "~", "3 030, 4 210; 2 300", "2 202; 1 103, 3 010", "1.000"},
            {"2 3 d", "~", "1 201; 1 022, 1 040", "1 211; 1 013, 1 100, 1 020", "1.021 1.003; 1.201; 1.040 1.004"},
            {"7 3 g", "~", "4 301; 6 040; 4 201", "6 013, 3 211, 3 100", "1.001; 1.040"},
            {"7 3 d", "~", "2 400, 6 301; 3 400, 1 100, 6 021", "5 013", "1.100 3.001; 1.003 4.020 5.000"}};
        for (String[] d : due) {
            Calls.test("ideals: what comes on the way is not refused: " + String.join(" | ", d), () -> {
                String[] ring = d[0].split(" ");
                int letters = Integer.parseInt(ring[1]);
                char order = ring[2].charAt(0);
                Renewed s = Calls.ring(Integer.parseInt(ring[0]), letters, order);
                Calls.due(made(s, d[1], d[2], d[3], letters, order), d[4]);
                if (d[1].equals("+") || d[1].equals("*")) {
                    Renewed t = Calls.ring(Integer.parseInt(ring[0]), letters, order);
                    Calls.due("the other way", made(t, d[1], d[3], d[2], letters, order), d[4]);
                }
            });
        }
    }

    private static String made(Renewed s, String kind, String one, String other, int letters, char order) {
        Object made = Calls.of(() -> {
            Calls.ideal(s, one);
            if (kind.equals("ideal")) {
                return 0;
            }
            if (kind.charAt(0) == 'w') {
                return s.without(0, kind.charAt(1) - '0');
            }
            Calls.ideal(s, other);
            return s.join(kind.charAt(0), 0, 1);
        });
        s.dropList();
        return made instanceof Integer ? Calls.basis(s, (Integer) made, letters, order)
            : made.equals(Calls.REFUSED) ? "refused" : "" + made;
    }

    private static void basesLookedAt() {
        Calls.test("9: sizes of 0, 1 and 12", () -> {
            Renewed s = Calls.ring(2, 3, 'g');
            Calls.due("12", s.size(Calls.twelveWords(s)), 12);
            Calls.due("0", s.size(Calls.ideal(s, "")), 0);
            Calls.due("1", s.size(Calls.ideal(s, "1 000")), 1);
        });
        Calls.test("10: places of a basis of 12, of 1 and of 0", () -> {
            Renewed s = Calls.ring(2, 3, 'g');
            int twelve = Calls.twelveWords(s);
            int zero = Calls.ideal(s, "");
            int all = Calls.ideal(s, "1 000");
            Calls.due("all", Calls.leads(s, twelve, 3), "004 013 103 112 031 121 211 301 040 130 310 400");
            Calls.due("the first one", s.words(twelve, 0) + " " + s.numberOf(twelve, 0, 0, 0, 4), "1 1");
            Calls.due("the last one", s.words(twelve, 11) + " " + s.numberOf(twelve, 11, 4, 0, 0), "1 1");
            for (int no : new int[] {Calls.LEAST, -1, 12, 13, 64, Calls.MOST}) {
                Calls.due("" + no, Calls.of(() -> s.lead(twelve, no, 0)), Calls.INDEX);
                Calls.due("" + no, Calls.of(() -> s.words(twelve, no)), Calls.INDEX);
                Calls.due("" + no, Calls.of(() -> s.numberOf(twelve, no, 0, 0, 0)), Calls.INDEX);
            }
            Calls.due("of 0", Calls.of(() -> s.lead(zero, 0, 0)), Calls.INDEX);
            Calls.due("of 0", Calls.of(() -> s.words(zero, 0)), Calls.INDEX);
            Calls.due("of 0", Calls.of(() -> s.numberOf(zero, 0, 0, 0, 0)), Calls.INDEX);
            Calls.due("of all", s.lead(all, 0, 0) + s.lead(all, 0, 1) + s.lead(all, 0, 2), 0);
            Calls.due("of all", s.words(all, 0) + " " + s.numberOf(all, 0, 0, 0, 0), "1 1");
            Calls.due("of all", Calls.of(() -> s.lead(all, 1, 0)), Calls.INDEX);
            Calls.due("of all", Calls.of(() -> s.words(all, 1)), Calls.INDEX);
            Calls.due("of all", Calls.of(() -> s.numberOf(all, 1, 0, 0, 0)), Calls.INDEX);
        });
        Calls.test("10: letters 0 to the last one", () -> {
            for (int letters = 2; letters <= 3; letters++) {
                Renewed s = Calls.ring(3, letters, 'g');
                Calls.ideal(s, letters == 2 ? "1 310" : "1 211");
                int last = letters - 1;
                Calls.due("x", s.lead(0, 0, 0), letters == 2 ? 3 : 2);
                Calls.due("the last one", s.lead(0, 0, last), 1);
                for (int no : new int[] {Calls.LEAST, -1, letters, 4, Calls.MOST}) {
                    Calls.due("" + no, Calls.of(() -> s.lead(0, 0, no)), Calls.ARGUMENT);
                }
            }
        });
        Calls.test("10: a power of 6, the greatest one", () -> {
            Renewed s = Calls.ring(2, 3, 'g');
            Calls.due(Calls.leads(s, Calls.sixthPowers(s), 3), "006 060 600");
        });
        Calls.test("11: one word, and many", () -> {
            Renewed s = Calls.ring(7, 3, 'g');
            for (int[] w : Calls.words(3, 4, 'g')) {
                s.term(3, w[0], w[1], w[2]);
            }
            s.push();
            s.ideal();
            Calls.due("all of them", s.words(0, 0), 35);
            Calls.due("one", s.words(Calls.ideal(s, "2 111"), 0), 1);
        });
        for (String name : new String[] {"size", "lead", "words", "numberOf", "has", "rest", "inRadical", "isGraded",
            "standard", "standardAt", "series", "polynomial", "dimension", "multiplicity", "roots", "table", "length",
            "regularity", "depth", "isOfWords", "components", "componentAt", "primes", "primeAt", "radical", "without"}) {
            Calls.test(name + ": there is no such ideal: below 0, and from how many there are on", () -> {
                Renewed s = new Renewed();
                for (int ideals = 0; ideals <= 11; ideals++) {
                    for (int no : new int[] {Calls.LEAST, -12, -1, ideals, ideals + 1, 12, 13, Calls.MOST}) {
                        Calls.due(no + " of " + ideals, Calls.of(() -> called(s, name, no)), Calls.INDEX);
                    }
                    Calls.ideal(s, "1 100");
                    Calls.due("the last one", Calls.INDEX.equals(Calls.of(() -> called(s, name, s.ideals() - 1))), false);
                    s.begin(2, 2, 'g');
                    for (int i = 0; i <= ideals; i++) {
                        Calls.ideal(s, "1 100");
                    }
                }
                Calls.due("twelve", s.ideals(), 12);
                for (int no : new int[] {Calls.LEAST, -1, 12, 13, Calls.MOST}) {
                    Calls.due(no + " of 12", Calls.of(() -> called(s, name, no)), Calls.INDEX);
                }
                Calls.due("11", Calls.INDEX.equals(Calls.of(() -> called(s, name, 11))), false);
            });
        }
    }

    /** Calls a method of one ideal, with arguments that are fine otherwise for that of x. */
    static Object called(Renewed s, String name, int ideal) {
        switch (name) {
            case "size": return s.size(ideal);
            case "lead": return s.lead(ideal, 0, 0);
            case "words": return s.words(ideal, 0);
            case "numberOf": return s.numberOf(ideal, 0, 0, 0, 0);
            case "has": return s.has(ideal);
            case "rest": return s.rest(ideal);
            case "inRadical": return s.inRadical(ideal);
            case "isGraded": return s.isGraded(ideal);
            case "standard": return s.standard(ideal, 0);
            case "standardAt": return s.standardAt(ideal, 0, 0);
            case "series": return s.series(ideal, 0);
            case "polynomial": return s.polynomial(ideal, 0);
            case "dimension": return s.dimension(ideal);
            case "multiplicity": return s.multiplicity(ideal);
            case "roots": return s.roots(ideal);
            case "table": return s.table(ideal, 0, 0);
            case "length": return s.length(ideal);
            case "regularity": return s.regularity(ideal);
            case "depth": return s.depth(ideal);
            case "isOfWords": return s.isOfWords(ideal);
            case "components": return s.components(ideal);
            case "componentAt": return s.componentAt(ideal, 0, 0);
            case "primes": return s.primes(ideal);
            case "primeAt": return s.primeAt(ideal, 0);
            case "radical": return s.radical(ideal);
            default: return s.without(ideal, 0);
        }
    }

    private static void numbersOf() {
        Calls.test("12: from 1 to the prime less 1", () -> {
            for (int prime : PRIMES) {
                for (int number = 1; number < prime; number++) {
                    Renewed s = Calls.ring(prime, 3, 'g');
                    s.term(number, 0, 0, 0);
                    Calls.poly(s, "1 211");
                    s.push();
                    s.ideal();
                    Calls.due(number + " modulo " + prime, s.numberOf(0, 0, 0, 0, 0), number);
                    Calls.due("leading", s.numberOf(0, 0, 2, 1, 1), 1);
                }
            }
        });
        Calls.test("12: 0 if it is not there", () -> {
            Renewed s = Calls.ring(7, 3, 'g');
            Calls.ideal(s, "1 211, 3 011");
            int there = 0;
            for (int x = 0; x <= 6; x++) {
                for (int y = 0; y <= 6; y++) {
                    for (int z = 0; z <= 6; z++) {
                        there += s.numberOf(0, 0, x, y, z);
                    }
                }
            }
            Calls.due(there, 4);
        });
        Calls.test("12: 0 if a power cannot be, though others make good for it", () -> {
            int[] no = {Calls.LEAST, -4097, -4096, -4095, -2, -1, 7, 8, 41, 4095, 4096, 4097, 4098, 1 << 24, Calls.MOST};
            for (char order : new char[] {'g', 'd'}) {
                Renewed s = Calls.ring(7, 3, order);
                Calls.ideal(s, "1 211, 3 110, 2 100, 4 010, 6 001, 5 000");
                for (int power : no) {
                    for (int rest = 0; rest <= 2; rest++) {
                        Calls.due("x " + power, s.numberOf(0, 0, power, rest, 1), 0);
                        Calls.due("y " + power, s.numberOf(0, 0, rest, power, 1), 0);
                        Calls.due("z " + power, s.numberOf(0, 0, rest, 1, power), 0);
                        Calls.due("x and y " + power, s.numberOf(0, 0, power, rest - power, 0), 0);
                        Calls.due("x and z " + power, s.numberOf(0, 0, power, 0, rest - power), 0);
                        Calls.due("y and z " + power, s.numberOf(0, 0, 0, power, rest - power), 0);
                        Calls.due("x, y and z " + power, s.numberOf(0, 0, 1, power, rest - 1 - power), 0);
                    }
                }
            }
        });
        Calls.test("12: 0 for a power of a letter that there is not", () -> {
            Renewed s = Calls.ring(7, 2, 'g');
            Calls.ideal(s, "1 210, 3 110, 5 000");
            for (int z : new int[] {Calls.LEAST, -1, 1, 2, 6, 7, Calls.MOST}) {
                Calls.due("xxy z" + z, s.numberOf(0, 0, 2, 1, z), 0);
                Calls.due("z" + z, s.numberOf(0, 0, 0, 0, z), 0);
            }
            Calls.due("z to 0", s.numberOf(0, 0, 2, 1, 0) + s.numberOf(0, 0, 0, 0, 0), 6);
        });
        Calls.test("12: a power of 6, the greatest one", () -> {
            Renewed s = Calls.ring(2, 3, 'g');
            int sixth = Calls.sixthPowers(s);
            Calls.due(s.numberOf(sixth, 0, 0, 0, 6) + s.numberOf(sixth, 1, 0, 6, 0) + s.numberOf(sixth, 2, 6, 0, 0), 3);
            Calls.due("all at once", s.numberOf(sixth, 0, 6, 6, 6), 0);
        });
    }

    private static void belonging() {
        Calls.test("13: 0 is in each ideal, that of 0 too", () -> {
            Renewed s = Calls.ring(3, 2, 'g');
            Calls.due("of 0", s.has(Calls.ideal(s, "")), true);
            Calls.due("of all", s.has(Calls.ideal(s, "1 000")), true);
            Calls.due("of x", s.has(Calls.ideal(s, "1 100")), true);
        });
        Calls.test("13: in the ideal of 0 there is nothing else, in that of all everything", () -> {
            Renewed s = Calls.ring(3, 3, 'g');
            Calls.ideal(s, "");
            Calls.ideal(s, "2 000");
            for (int[] w : Calls.words(3, 4, 'g')) {
                s.term(1, w[0], w[1], w[2]);
                Calls.due("of 0", s.has(0), false);
                Calls.due("of all", s.has(1), true);
            }
        });
        Calls.test("13: the polynomial stays", () -> {
            Renewed s = Calls.ring(3, 2, 'g');
            Calls.ideal(s, "1 100");
            Calls.poly(s, "2 110, 1 010");
            Calls.due(s.has(0), false);
            Calls.due(Calls.polynomial(s, 3), "xy 2.110 1.010");
        });
        Calls.test("14: the rest of 0 is 0, by 0 it stays, by all it is 0", () -> {
            Renewed s = Calls.ring(5, 3, 'g');
            Calls.ideal(s, "");
            Calls.ideal(s, "1 000");
            Calls.due("of 0 by 0", s.rest(0), 0);
            Calls.due("of 0 by all", s.rest(1), 0);
            Calls.poly(s, "4 400, 2 111, 1 000");
            Calls.due("by 0", s.rest(0), 3);
            Calls.due("it stays", Calls.polynomial(s, 5), "xyz 4.400 2.111 1.000");
            Calls.due("by all", s.rest(1), 0);
            Calls.due("0", s.wipe(), 0);
        });
        Calls.test("14: standard words alone, and it differs by something in the ideal", () -> {
            Renewed s = Calls.ring(5, 3, 'g');
            Calls.ideal(s, "1 200, 4 010, 4 001, 4 000");
            Calls.poly(s, "1 400");
            Calls.due("more words than before", s.rest(0), 6);
            Calls.due(Calls.polynomial(s, 5), "xyz 1.020 2.011 1.002 2.010 2.001 1.000");
            Calls.due("again", s.rest(0), 6);
        });
        Calls.test("14: of the degree 4, the greatest one, by leading words of it", () -> {
            Renewed s = Calls.ring(2, 3, 'd');
            int twelve = Calls.twelveWords(s);
            for (int[] w : Calls.words(3, 4, 'd')) {
                s.term(1, w[0], w[1], w[2]);
            }
            Calls.due(s.rest(twelve), 23);
        });
    }

    private static void radicalMembers() {
        Calls.test("15: 0 is in each radical; of that of 0 nothing else", () -> {
            Renewed s = Calls.ring(3, 2, 'g');
            Calls.ideal(s, "");
            Calls.ideal(s, "1 000");
            Calls.due("of 0", s.inRadical(0), true);
            Calls.due("of all", s.inRadical(1), true);
            Calls.poly(s, "1 400");
            Calls.due("of 0", s.inRadical(0), false);
            Calls.due("of all", s.inRadical(1), true);
            s.wipe();
            Calls.poly(s, "2 000");
            Calls.due("1, of 0", s.inRadical(0), false);
            Calls.due("1, of all", s.inRadical(1), true);
        });
        Calls.test("15: some power: the sixth, and one far beyond", () -> {
            Renewed s = Calls.ring(2, 3, 'g');
            int sixth = Calls.sixthPowers(s);
            Calls.poly(s, "1 100");
            Calls.due("x", s.inRadical(sixth), true);
            Calls.due("x is not in it", s.has(sixth), false);
            Calls.poly(s, "1 010, 1 001");
            Calls.due("x + y + z", s.inRadical(sixth), true);
            Calls.poly(s, "1 000");
            Calls.due("x + y + z + 1", s.inRadical(sixth), false);
        });
        Calls.test("15: not where it is not 0 at all roots, be these no numbers of the ring", () -> {
            Renewed s = Calls.ring(3, 2, 'g');
            Calls.ideal(s, "1 200, 1 000");
            Calls.due("no roots here", s.roots(0), 0);
            Calls.poly(s, "1 010");
            Calls.due("y", s.inRadical(0), false);
            Calls.poly(s, "-1 010, 1 400, -1 000");
            Calls.due("x^4 - 1", s.inRadical(0), true);
        });
        Calls.test("15: whatever was asked before", () -> {
            Renewed s = Calls.ring(5, 2, 'g');
            Calls.ideal(s, "1 200");
            Calls.ideal(s, "1 010");
            Calls.poly(s, "1 010");
            Calls.due("y is in (y)", s.has(1), true);
            Calls.due("y is not in the radical of (x^2)", s.inRadical(0), false);
            Calls.due("y is not there still", s.inRadical(0), false);
            Calls.poly(s, "4 010, 1 100");
            Calls.due("x is", s.inRadical(0), true);
            Calls.due("x is not in that of (y)", s.inRadical(1), false);
        });
        Calls.test("15: the polynomial stays", () -> {
            Renewed s = Calls.ring(3, 2, 'g');
            Calls.ideal(s, "1 200");
            Calls.poly(s, "2 110, 1 100");
            Calls.due(s.inRadical(0), true);
            Calls.due(Calls.polynomial(s, 3), "xy 2.110 1.100");
        });
        Calls.test("15: what would be refused on the way is no fault", () -> {
            Renewed s = Calls.ring(3, 3, 'd');
            Calls.ideal(s, "1 030; 1 200, 2 112");
            Calls.ideal(s, "2 103, 2 010");
            Calls.due("the quotient is refused", Calls.of(() -> s.join(':', 0, 1)), Calls.REFUSED);
            Calls.poly(s, "2 103, 2 010");
            Calls.due(s.inRadical(0), true);
        });
    }

    private static void comparing() {
        Calls.test("16: that of 0, that of all, and the same one", () -> {
            Renewed s = threeIdeals();
            for (int i = 0; i < 6; i++) {
                for (int j = 0; j < 6; j++) {
                    Calls.due(i + " " + j, s.isSame(i, j), i % 3 == j % 3);
                }
            }
        });
        Calls.test("17: 0 within each, each within all, and each within itself", () -> {
            Renewed s = threeIdeals();
            for (int i = 0; i < 6; i++) {
                for (int j = 0; j < 6; j++) {
                    Calls.due(i + " " + j, s.isWithin(i, j), i % 3 == j % 3 || i % 3 == 0 || j % 3 == 2);
                }
            }
        });
        for (int ideals = 0; ideals <= 12; ideals += ideals == 0 ? 1 : 11) {
            int number = ideals;
            Calls.test("16, 17, 18: no such ideal, for either, of " + number, () -> {
                Renewed s = new Renewed();
                for (int i = 0; i < number; i++) {
                    Calls.ideal(s, "1 100");
                }
                for (int no : new int[] {Calls.LEAST, -1, number, number + 1, 12, 13, Calls.MOST}) {
                    for (int other : new int[] {no, 0, number - 1}) {
                        Calls.due("same " + no, Calls.of(() -> s.isSame(no, other)), Calls.INDEX);
                        Calls.due("same, other " + no, Calls.of(() -> s.isSame(other, no)), Calls.INDEX);
                        Calls.due("within " + no, Calls.of(() -> s.isWithin(no, other)), Calls.INDEX);
                        Calls.due("within, other " + no, Calls.of(() -> s.isWithin(other, no)), Calls.INDEX);
                        for (char kind : KINDS) {
                            Calls.due(kind + " " + no, Calls.of(() -> s.join(kind, no, other)), Calls.INDEX);
                            Calls.due(kind + " other " + no, Calls.of(() -> s.join(kind, other, no)), Calls.INDEX);
                        }
                    }
                }
                if (number > 0) {
                    Calls.due("the last one", s.isSame(number - 1, 0), true);
                    Calls.due("the last one", s.isWithin(0, number - 1), true);
                }
            });
        }
    }

    /** 0, x and all, twice, by unlike polynomials. */
    private static Renewed threeIdeals() {
        Renewed s = Calls.ring(5, 2, 'g');
        for (String list : new String[] {"", "1 100", "1 000", "", "3 100; 2 110", "1 100; 1 100, 1 000"}) {
            Calls.ideal(s, list);
        }
        return s;
    }

    private static void nothingAndAll() {
        String[] lists = {"", "1 000", "1 200; 1 110"};
        String[] bases = {"", "1.000", "1.110; 1.200"};
        // For each kind what comes of 0, of all and of one between, with each of these: 0, all, or the first one.
        String[] due = {
            "0 1 2 1 1 1 2 1 2", "0 0 0 0 1 2 0 2 -", "0 0 0 0 1 2 0 2 2", "1 0 0 1 1 1 1 2 1", "1 0 0 1 1 1 1 2 1"};
        for (int k = 0; k < KINDS.length; k++) {
            char kind = KINDS[k];
            String[] row = due[k].split(" ");
            for (int i = 0; i < 9; i++) {
                int pair = i;
                Calls.test("18: " + kind + " of the ideals '" + lists[i / 3] + "' and '" + lists[i % 3] + "'", () -> {
                    for (char order : new char[] {'g', 'd'}) {
                        Renewed s = Calls.ring(3, 3, order);
                        int one = Calls.ideal(s, lists[pair / 3]);
                        int other = Calls.ideal(s, lists[pair % 3]);
                        int made = s.join(kind, one, other);
                        Calls.due("number", made, 2);
                        Calls.due("basis", Calls.basis(s, made, 3, order), row[pair].equals("-")
                            ? "1.220; 1.310; 1.400" : bases[row[pair].charAt(0) - '0']);
                        Calls.due("with itself too", s.isSame(s.join(kind, one, one), s.join(kind, one,
                            Calls.ideal(s, lists[pair / 3]))), true);
                    }
                });
            }
        }
        Calls.test("18: kinds + * & : ~ and no other ones", () -> {
            Renewed s = Calls.ring(3, 3, 'g');
            Calls.ideal(s, "1 100");
            for (int no = 0; no < 300; no++) {
                char kind = (char) no;
                if ("+*&:~".indexOf(kind) < 0) {
                    Calls.due("" + no, Calls.of(() -> s.join(kind, 0, 0)), Calls.ARGUMENT);
                }
            }
            Calls.due("65535", Calls.of(() -> s.join((char) 65535, 0, 0)), Calls.ARGUMENT);
            Calls.due("nothing has come", s.ideals(), 1);
        });
        Calls.test("18: again and again, until nothing more comes", () -> {
            Renewed s = Calls.ring(2, 3, 'g');
            int sixth = Calls.sixthPowers(s);
            Calls.ideal(s, "1 100");
            Calls.due("once", Calls.leads(s, s.join(':', sixth, sixth + 1), 3), "500 006 060");
            Calls.due("until the end", Calls.leads(s, s.join('~', sixth, sixth + 1), 3), "000");
        });
    }

    private static void lettersGone() {
        Calls.test("19: of 0, of all, and of what has the letter in each polynomial", () -> {
            for (int letters = 2; letters <= 3; letters++) {
                for (char order : new char[] {'g', 'd'}) {
                    for (int letter = 0; letter < letters; letter++) {
                        Renewed s = Calls.ring(5, letters, order);
                        Calls.due("number", s.without(Calls.ideal(s, ""), letter), 1);
                        Calls.due("of 0", s.size(1), 0);
                        Calls.due("of all", Calls.basis(s, s.without(Calls.ideal(s, "2 000"), letter), letters, order),
                            "1.000");
                        String word = letter == 0 ? "1 200" : letter == 1 ? "1 020" : "1 002";
                        Calls.due("of its power", s.size(s.without(Calls.ideal(s, word), letter)), 0);
                        int other = (letter + 1) % letters;
                        int same = s.without(s.ideals() - 2, other);
                        Calls.due("without another one", s.isSame(same, s.ideals() - 3), true);
                    }
                }
            }
        });
        Calls.test("19: the letter in the least polynomial, or in what all have in common", () -> {
            for (char order : new char[] {'g', 'd'}) {
                Renewed s = Calls.ring(5, 3, order);
                Calls.ideal(s, "1 110; 1 030");
                Calls.due("x in xy alone", Calls.leads(s, s.without(0, 0), 3), "030");
                Calls.due("y in both", s.size(s.without(0, 1)), 0);
                Calls.due("z in none", s.isSame(s.without(0, 2), 0), true);
                s.begin(5, 2, order);
                Calls.ideal(s, "1 110, 1 010; 1 030, 1 010");
                Calls.due("two letters, x", Calls.basis(s, s.without(0, 0), 2, order), "1.030 1.010");
                Calls.due("two letters, y", s.size(s.without(0, 1)), 0);
            }
        });
        Calls.test("19: letters 0 to the last one", () -> {
            for (int letters = 2; letters <= 3; letters++) {
                Renewed s = Calls.ring(5, letters, 'g');
                Calls.ideal(s, "1 100, 1 010");
                Calls.due("0", s.size(s.without(0, 0)), 0);
                Calls.due("the last one", s.size(s.without(0, letters - 1)), letters - 2);
                for (int no : new int[] {Calls.LEAST, -1, letters, 4, Calls.MOST}) {
                    Calls.due("" + no, Calls.of(() -> s.without(0, no)), Calls.ARGUMENT);
                }
            }
        });
        Calls.test("19: an ideal of the same ring", () -> {
            Renewed s = Calls.ring(5, 3, 'd');
            Calls.ideal(s, "1 100; 1 011");
            int without = s.without(0, 0);
            Calls.due("its words", Calls.leads(s, without, 3), "011");
            Calls.due("its letters are three", s.standard(without, 1), 3);
        });
    }

    private static void lastCall() {
        Calls.test("an object is used for at most 512 calls: the last one answers as the first one", () -> {
            Renewed s = new Renewed();
            for (int calls = 0; calls < 480; calls += 12) {
                s.begin(7, 3, 'd');
                s.term(1, 3, 0, 1);
                s.term(3, 1, 2, 0);
                s.term(2, 0, 0, 1);
                s.push();
                s.term(1, 0, 3, 1);
                s.term(5, 2, 0, 0);
                s.push();
                s.ideal();
                Calls.of(() -> s.join('*', 0, 0));
                Calls.of(() -> s.join('&', 0, 0));
                Calls.of(() -> s.without(0, 2));
            }
            for (int calls = 480; calls < 490; calls++) {
                s.ideals();
            }
            s.begin(5, 3, 'g');
            s.term(1, 2, 0, 0);
            s.term(-1, 0, 1, 1);
            s.push();
            s.term(1, 1, 1, 0);
            s.term(-1, 0, 0, 2);
            s.push();
            Calls.due("the number", s.ideal(), 0);
            Calls.due("sound", s.isSound(), true);
            Calls.due("the last 13 calls", Calls.leads(s, 0, 3), "110 200 021");
            Calls.due("all of one object", s.renewals(), 0);
            Calls.due("one more would not be", s.size(0) + s.renewals(), 4);
        });
    }
}
