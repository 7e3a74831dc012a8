/** A test for each sentence that names a boundary, as in EdgesTest: promises 38 to 45. */
public final class FacesEdgesTest {
    private static final int[] PRIMES = {2, 3, 5, 7};
    private static final int[] TRIPLES = triples();
    /** All sets of 5 points. */
    private static final int[] SPHERE = {31, 47, 55, 59, 61, 62};

    public static void main(String[] arguments) {
        points();
        facesCounted();
        facets();
        holes();
        duals();
        shellings();
        ways();
        Calls.end();
    }

    private static Renewed withFaces(int... sets) {
        Renewed s = new Renewed();
        for (int set : sets) {
            s.put(set);
        }
        return s;
    }

    private static int[] triples() {
        int[] sets = new int[20];
        int number = 0;
        for (int set = 0; set < 64; set++) {
            if (Integer.bitCount(set) == 3) {
                sets[number] = set;
                number++;
            }
        }
        return sets;
    }

    private static void points() {
        Calls.test("38: 1 to 63", () -> {
            Calls.due("1", withFaces().put(1), 1);
            Calls.due("32", withFaces().put(32), 1);
            Calls.due("63", withFaces().put(63), 1);
            Renewed s = withFaces(5);
            for (int no : new int[] {Calls.LEAST, -63, -1, 0, 64, 65, 127, 128, Calls.MOST}) {
                Calls.due("" + no, Calls.of(() -> s.put(no)), Calls.ARGUMENT);
            }
            Calls.due("faces", s.clear(), 4);
        });
        Calls.test("38: how many facets there are, up to 20", () -> {
            Renewed s = new Renewed();
            for (int i = 0; i < 20; i++) {
                Calls.due("one more", s.put(TRIPLES[i]), i + 1);
            }
            Calls.due("what is there", s.put(3), 20);
            Calls.due("one for four of them", s.put(15), 17);
            Calls.due("one for all", s.put(63), 1);
            Calls.due("what is within", s.put(31), 1);
        });
        Calls.test("38: each face that is within, the empty one too, and no other one", () -> {
            for (int set = 1; set <= 63; set++) {
                Renewed s = withFaces(set);
                int points = Integer.bitCount(set);
                Calls.due("" + set, s.facetAt(0), set);
                int ways = 1;
                for (int d = -1; d <= 5; d++) {
                    Calls.due(set + " of " + d, s.faces(d), ways);
                    ways = ways * (points - d - 1) / (d + 2);
                }
                Calls.due("all", s.clear(), 1 << points);
            }
        });
        Calls.test("39: none, all, and what is left", () -> {
            Calls.due("none", new Renewed().clear(), 0);
            Renewed s = withFaces(63);
            Calls.due("all", s.clear(), 64);
            Calls.due("none is left", s.faces(-1) + s.faces(0) + s.faces(5) + s.clear(), 0);
            Calls.due("one point", withFaces(32).clear(), 2);
            Renewed empty = withFaces(SPHERE);
            empty.dual();
            Calls.due("the empty face alone", empty.clear(), 1);
        });
    }

    private static void facesCounted() {
        Calls.test("40: dimensions -1 to 5", () -> {
            Renewed s = withFaces(63);
            Calls.due("-1", s.faces(-1), 1);
            Calls.due("0", s.faces(0), 6);
            Calls.due("4", s.faces(4), 6);
            Calls.due("5", s.faces(5), 1);
            for (int no : new int[] {Calls.LEAST, -3, -2, 6, 7, Calls.MOST}) {
                Calls.due("" + no, Calls.of(() -> s.faces(no)), Calls.ARGUMENT);
                Calls.due("holes " + no, Calls.of(() -> s.holes(no)), Calls.ARGUMENT);
            }
        });
        Calls.test("40: the empty one too, if something was put in", () -> {
            Renewed s = new Renewed();
            Calls.due("nothing", s.faces(-1), 0);
            s.put(8);
            Calls.due("a point", s.faces(-1) + " " + s.faces(0), "1 1");
            s.clear();
            Calls.due("nothing again", s.faces(-1), 0);
        });
    }

    private static void facets() {
        Calls.test("41: index 0 to the last one of 20, by rising numbers", () -> {
            Renewed s = new Renewed();
            for (int i = 19; i >= 0; i--) {
                s.put(TRIPLES[i]);
            }
            for (int i = 0; i < 20; i++) {
                Calls.due("" + i, s.facetAt(i), TRIPLES[i]);
            }
            for (int no : new int[] {Calls.LEAST, -1, 20, 21, 63, 64, Calls.MOST}) {
                Calls.due("" + no, Calls.of(() -> s.facetAt(no)), Calls.NONE);
            }
        });
        Calls.test("41: no face, the empty face alone, all points", () -> {
            Calls.due("no face", Calls.of(() -> withFaces().facetAt(0)), Calls.NONE);
            Renewed s = withFaces(SPHERE);
            s.dual();
            Calls.due("the empty face", s.facetAt(0), 0);
            Calls.due("not two", Calls.of(() -> s.facetAt(1)), Calls.NONE);
            Calls.due("all", withFaces(63).facetAt(0), 63);
            Calls.due("not two", Calls.of(() -> withFaces(63).facetAt(1)), Calls.NONE);
        });
    }

    private static String holesTold(Renewed s) {
        StringBuilder b = new StringBuilder();
        for (int d = -1; d <= 5; d++) {
            b.append(s.holes(d)).append(d < 5 ? " " : "");
        }
        return b.toString();
    }

    private static void holes() {
        Calls.test("42: no faces, the empty face alone, a point, all points", () -> {
            Calls.due("no faces", holesTold(withFaces()), "0 0 0 0 0 0 0");
            Renewed s = withFaces(SPHERE);
            s.dual();
            Calls.due("the empty face", holesTold(s), "1 0 0 0 0 0 0");
            Calls.due("a point", holesTold(withFaces(4)), "0 0 0 0 0 0 0");
            Calls.due("all points", holesTold(withFaces(63)), "0 0 0 0 0 0 0");
        });
        Calls.test("42: holes of each dimension, of all faces up to one", () -> {
            for (int prime : PRIMES) {
                for (int points = 1; points <= 5; points++) {
                    Renewed s = new Renewed();
                    s.begin(prime, 2, 'g');
                    int due = 1;
                    for (int set = 1; set < 64; set++) {
                        if (Integer.bitCount(set) == points) {
                            s.put(set);
                        }
                    }
                    for (int k = 1; k <= points; k++) {
                        due = due * (5 - k + 1) / k;
                    }
                    for (int d = -1; d <= 5; d++) {
                        Calls.due(points + " points, modulo " + prime + ", " + d, s.holes(d), d == points - 1 ? due : 0);
                    }
                }
            }
        });
        Calls.test("42: modulo the prime", () -> {
            // The projective plane of six points: holes modulo 2 alone.
            int[] sets = {7, 13, 25, 49, 35, 22, 44, 26, 52, 42};
            for (int prime : PRIMES) {
                Renewed s = withFaces(sets);
                s.begin(prime, 3, 'd');
                Calls.due("" + prime, holesTold(s), prime == 2 ? "0 0 1 1 0 0 0" : "0 0 0 0 0 0 0");
            }
        });
    }

    private static void duals() {
        Calls.test("43: of no face all sets, of all sets none", () -> {
            Renewed s = new Renewed();
            Calls.due("all", s.dual(), 64);
            Calls.due("all points are one", s.faces(5) + " " + s.facetAt(0), "1 63");
            Calls.due("none", s.dual(), 0);
            Calls.due("none", s.faces(-1), 0);
        });
        Calls.test("43: of all but one the empty face, and back", () -> {
            Renewed s = withFaces(SPHERE);
            Calls.due("one", s.dual(), 1);
            Calls.due("it is the empty one", s.faces(-1) + " " + s.faces(0), "1 0");
            Calls.due("63", s.dual(), 63);
            Calls.due("facets", s.facetAt(0) + " " + s.facetAt(5), "31 62");
        });
        Calls.test("43: of a point, and of the points", () -> {
            Renewed s = withFaces(1);
            Calls.due("all but two", s.dual(), 62);
            Calls.due("not those of 5 points with it", s.faces(4) + " " + s.faces(3), "5 15");
            Calls.due("and back", s.dual() + " " + s.facetAt(0), "2 1");
            Renewed t = withFaces(1, 2, 4, 8, 16, 32);
            Calls.due("up to 4 points", t.dual() + " " + t.faces(4) + " " + t.faces(3), "57 0 15");
        });
    }

    private static void shellings() {
        Calls.test("44: no face", () -> {
            Calls.due("at first", Calls.of(() -> withFaces().canBeShelled()), Calls.REFUSED);
            Renewed s = withFaces(63);
            s.clear();
            Calls.due("cleared", Calls.of(s::canBeShelled), Calls.REFUSED);
            s.put(63);
            s.dual();
            Calls.due("dual", Calls.of(() -> withFaces(63).dual()), 0);
            Calls.due("dual", Calls.of(s::canBeShelled), Calls.REFUSED);
        });
        Calls.test("44: one facet of each size", () -> {
            for (int set : new int[] {1, 3, 7, 15, 31, 63}) {
                Calls.due("" + set, withFaces(set).canBeShelled(), true);
            }
            Renewed s = withFaces(SPHERE);
            s.dual();
            Calls.due("the empty face alone", s.canBeShelled(), true);
        });
        Calls.test("44: 8 facets, not more", () -> {
            Renewed s = new Renewed();
            for (int i = 0; i < 7; i++) {
                s.put(new int[] {7, 11, 13, 14, 19, 21, 22}[i]);
            }
            Renewed t = withFaces(7, 11, 13, 14, 19, 21, 22);
            Calls.due("8, that can", s.put(35) + " " + s.canBeShelled(), "8 true");
            Calls.due("8, that cannot", t.put(56) + " " + t.canBeShelled(), "8 false");
            Calls.due("9", s.put(37) + " " + Calls.of(s::canBeShelled), "9 " + Calls.REFUSED);
            Calls.due("9", t.put(35) + " " + Calls.of(t::canBeShelled), "9 " + Calls.REFUSED);
            Calls.due("20", Calls.of(() -> withFaces(TRIPLES).canBeShelled()), Calls.REFUSED);
            Calls.due("8 again", s.put(15) + " " + s.canBeShelled(), "6 false");
        });
        Calls.test("44: with facets of unlike dimensions it cannot be", () -> {
            Calls.due("a line and a point", withFaces(3, 4).canBeShelled(), false);
            Calls.due("a plane and a line at it", withFaces(7, 12).canBeShelled(), false);
            Calls.due("more than 8 of them", Calls.of(() -> {
                Renewed s = withFaces(TRIPLES);
                s.put(15);
                return s.canBeShelled();
            }), Calls.REFUSED);
        });
        Calls.test("44: meets those ahead in faces of one dimension less", () -> {
            Calls.due("6 points", withFaces(1, 2, 4, 8, 16, 32).canBeShelled(), true);
            Calls.due("two lines at a point", withFaces(3, 6).canBeShelled(), true);
            Calls.due("two lines apart", withFaces(3, 12).canBeShelled(), false);
            Calls.due("a ring of 6 lines", withFaces(3, 6, 12, 24, 48, 33).canBeShelled(), true);
            Calls.due("two rings", withFaces(3, 6, 5, 24, 48, 40).canBeShelled(), false);
            Calls.due("a line and a point of two planes", withFaces(7, 14).canBeShelled() + " "
                + withFaces(7, 28).canBeShelled(), "true false");
            Calls.due("a sphere of 5 points each", withFaces(SPHERE).canBeShelled(), true);
        });
    }

    private static long waysBy(int one, int two, int three, int sum) {
        long[] ways = new long[sum + 1];
        ways[0] = 1;
        for (int number : new int[] {one, two, three}) {
            for (int i = number; i <= sum; i++) {
                ways[i] += ways[i - number];
            }
        }
        return ways[sum];
    }

    private static void ways() {
        Calls.test("45: numbers 1 to 1000, a sum 0 to 1000000", () -> {
            Renewed s = new Renewed();
            int[] numbers = {1, 2, 997, 999, 1000};
            for (int one : numbers) {
                for (int two : numbers) {
                    for (int three : numbers) {
                        for (int sum : new int[] {0, 1, 2, 999, 1000, 1001, 999999, 1000000}) {
                            Calls.due(one + " " + two + " " + three + " " + sum, s.ways(one, two, three, sum),
                                waysBy(one, two, three, sum));
                        }
                    }
                }
            }
            Calls.due("the most", s.ways(1, 1, 1, 1000000), 500001500001L);
        });
        Calls.test("45: a number out of range", () -> {
            Renewed s = new Renewed();
            for (int no : new int[] {Calls.LEAST, -1, 0, 1001, 1002, Calls.MOST}) {
                Calls.due("one " + no, Calls.of(() -> s.ways(no, 1, 1, 1)), Calls.ARGUMENT);
                Calls.due("two " + no, Calls.of(() -> s.ways(1, no, 1, 1)), Calls.ARGUMENT);
                Calls.due("three " + no, Calls.of(() -> s.ways(1, 1, no, 1)), Calls.ARGUMENT);
            }
            for (int no : new int[] {Calls.LEAST, -1000, -1, 1000001, Calls.MOST}) {
                Calls.due("sum " + no, Calls.of(() -> s.ways(1, 1, 1, no)), Calls.ARGUMENT);
            }
        });
        Calls.test("45: none too; like numbers count apart", () -> {
            Renewed s = new Renewed();
            Calls.due("none of each", s.ways(1, 1, 1, 0), 1);
            Calls.due("1 of three likes", s.ways(1, 1, 1, 1), 3);
            Calls.due("two likes", s.ways(2, 2, 3, 4), 3);
            Calls.due("not reached", s.ways(2, 4, 6, 7), 0);
            Calls.due("less than each", s.ways(1000, 1000, 1000, 999), 0);
        });
    }
}
