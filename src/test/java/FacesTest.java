import java.util.ArrayList;
import java.util.Arrays;
import java.util.List;
import java.util.NoSuchElementException;
import java.util.Random;
import java.util.Set;
import java.util.TreeSet;

/** Promises 38 to 44 against plain counting by the words of the document, on many sets of faces and their duals. */
public final class FacesTest {
    private static int wrong;

    private static void due(String what, Object got, Object want) {
        if (!got.equals(want)) {
            wrong++;
            System.out.println(wrong > 20 ? "and so on" : what + ": answered " + got + ", due is " + want);
        }
    }

    public static void main(String[] arguments) {
        Random random = new Random(11);
        int[] primes = {2, 3, 5, 7};
        for (int run = 0; run < 1500; run++) {
            Syzygium s = new Syzygium();
            int prime = primes[run % 4];
            s.begin(prime, 2, 'g');
            Set<Integer> faces = new TreeSet<>();
            int sets = 1 + random.nextInt(run % 3 == 0 ? 12 : 6);
            int size = random.nextInt(5);
            for (int i = 0; i < sets; i++) {
                int points = 0;
                while (points == 0 || size > 0 && Integer.bitCount(points) != size) {
                    points = random.nextInt(64);
                }
                for (int face = 0; face < 64; face++) {
                    if ((face & ~points) == 0) {
                        faces.add(face);
                    }
                }
                due("38", s.put(points), facets(faces).size());
            }
            look(s, faces, prime);
            Set<Integer> dual = new TreeSet<>();
            for (int face = 0; face < 64; face++) {
                if (!faces.contains(63 - face)) {
                    dual.add(face);
                }
            }
            due("43", s.dual(), dual.size());
            look(s, dual, prime);
            due("39", s.clear(), dual.size());
        }
        System.out.println("faces by plain counting, " + wrong + " wrong");
        if (wrong != 0) {
            System.exit(1);
        }
    }

    private static void look(Syzygium s, Set<Integer> faces, int prime) {
        List<Integer> facets = facets(faces);
        for (int i = 0; i < facets.size(); i++) {
            due("41", s.facetAt(i), facets.get(i));
        }
        try {
            s.facetAt(facets.size());
            due("41", "an answer", "NoSuchElementException");
        } catch (NoSuchElementException e) {
            // as it is due
        }
        for (int d = -1; d <= 5; d++) {
            due("40", s.faces(d), of(faces, d + 1).size());
            due("42", s.holes(d), of(faces, d + 1).size() - rank(faces, d + 1, prime) - rank(faces, d + 2, prime));
        }
        String got;
        try {
            got = "" + s.canBeShelled();
        } catch (UnsupportedOperationException e) {
            got = "refused";
        }
        due("44", got, shelled(faces, facets));
    }

    private static List<Integer> of(Set<Integer> faces, int points) {
        List<Integer> list = new ArrayList<>();
        for (int face : faces) {
            if (Integer.bitCount(face) == points) {
                list.add(face);
            }
        }
        return list;
    }

    private static List<Integer> facets(Set<Integer> faces) {
        List<Integer> list = new ArrayList<>();
        for (int face : faces) {
            boolean isFacet = true;
            for (int other : faces) {
                isFacet &= other == face || (face & ~other) != 0;
            }
            if (isFacet) {
                list.add(face);
            }
        }
        return list;
    }

    private static int rank(Set<Integer> faces, int points, int prime) {
        List<Integer> from = of(faces, points);
        List<Integer> to = of(faces, points - 1);
        if (points < 1 || from.isEmpty()) {
            return 0;
        }
        int[][] m = new int[from.size()][to.size()];
        for (int i = 0; i < from.size(); i++) {
            int sign = 1;
            for (int point = 0; point < 6; point++) {
                if ((from.get(i) >> point & 1) != 0) {
                    m[i][to.indexOf(from.get(i) - (1 << point))] = Math.floorMod(sign, prime);
                    sign = -sign;
                }
            }
        }
        int rank = 0;
        for (int column = 0; column < to.size(); column++) {
            for (int row = rank; row < m.length; row++) {
                if (m[row][column] != 0) {
                    int[] pivot = m[row];
                    m[row] = m[rank];
                    m[rank] = pivot;
                    for (int other = 0; other < m.length; other++) {
                        while (other != rank && m[other][column] != 0) {
                            for (int k = 0; k < pivot.length; k++) {
                                m[other][k] = (m[other][k] + pivot[k]) % prime;
                            }
                        }
                    }
                    rank++;
                    break;
                }
            }
        }
        return rank;
    }

    private static String shelled(Set<Integer> faces, List<Integer> facets) {
        if (faces.isEmpty() || facets.size() > 8) {
            return "refused";
        }
        for (int facet : facets) {
            if (Integer.bitCount(facet) != Integer.bitCount(facets.get(0))) {
                return "false";
            }
        }
        return "" + canGoOn(new ArrayList<>(), facets);
    }

    private static boolean canGoOn(List<Integer> ahead, List<Integer> left) {
        if (left.isEmpty()) {
            return true;
        }
        for (int i = 0; i < left.size(); i++) {
            if (mayCome(ahead, left.get(i))) {
                List<Integer> with = new ArrayList<>(ahead);
                List<Integer> without = new ArrayList<>(left);
                with.add(without.remove(i));
                if (canGoOn(with, without)) {
                    return true;
                }
            }
        }
        return false;
    }

    private static boolean mayCome(List<Integer> ahead, int facet) {
        boolean[] isShared = new boolean[64];
        for (int face = 0; face < 64; face++) {
            for (int other : ahead) {
                isShared[face] |= (face & ~facet) == 0 && (face & ~other) == 0;
            }
        }
        boolean[] isCovered = new boolean[64];
        for (int large = 0; large < 64; large++) {
            for (int face = 0; face < 64; face++) {
                isCovered[face] |= isShared[large] && (face & ~large) == 0
                    && Integer.bitCount(large) == Integer.bitCount(facet) - 1;
            }
        }
        return ahead.isEmpty() || Arrays.equals(isShared, isCovered);
    }
}
