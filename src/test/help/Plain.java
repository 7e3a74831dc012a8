import java.util.ArrayDeque;
import java.util.ArrayList;
import java.util.Deque;
import java.util.HashMap;
import java.util.List;
import java.util.Map;

/**
 * Ideals by plain linear algebra, as the document tells them: what an ideal has up to a degree is a space of rows of
 * numbers, a column a word, by falling words. What is found is in the ideal; if all is graded, nothing is missing.
 */
public final class Plain {
    public final int prime;
    public final int letters;
    public final char order;
    public final int most;
    public final List<int[]> words;
    private final Map<Integer, Integer> columns = new HashMap<>();

    /** Rows by their first column that is not 0, where they have the number 1; all of them up to a degree. */
    public final class Space {
        public final int[][] rows = new int[words.size()][];
        public final int degree;

        Space(int degree) {
            this.degree = degree;
        }

        /** What is left of a row without the first words of the rows. */
        public int[] rest(int[] row) {
            int[] left = row.clone();
            for (int column = 0; column < left.length; column++) {
                if (left[column] != 0 && rows[column] != null) {
                    subtract(left, rows[column], left[column]);
                }
            }
            return left;
        }

        public boolean has(int[] row) {
            return first(rest(row)) < 0;
        }

        /** Adds a row; returns what is new of it, null if nothing is. */
        int[] add(int[] row) {
            int[] left = rest(row);
            int column = first(left);
            if (column < 0) {
                return null;
            }
            scale(left, inverse(left[column]));
            rows[column] = left;
            return left;
        }

        public boolean isInside(Space other) {
            for (int[] row : rows) {
                if (row != null && degreeOf(row) <= Math.min(degree, other.degree) && !other.has(row)) {
                    return false;
                }
            }
            return true;
        }

        /** The columns of the first words that no other one of them divides truly, by rising words. */
        public List<Integer> least() {
            List<Integer> least = new ArrayList<>();
            for (int column = words.size() - 1; column >= 0; column--) {
                if (rows[column] != null && degree(words.get(column)) <= degree) {
                    boolean isLeast = true;
                    for (int other : least) {
                        isLeast &= !divides(words.get(other), words.get(column));
                    }
                    if (isLeast) {
                        least.add(column);
                    }
                }
            }
            return least;
        }

        /** The basis, told as Calls.basis tells it, or that it is refused. */
        public String basis() {
            List<Integer> least = least();
            StringBuilder b = new StringBuilder();
            for (int column : least) {
                if (least.size() > 12 || degree(words.get(column)) > 6) {
                    return "refused";
                }
                int[] row = rows[column].clone();
                row[column] = 0;
                row = rest(row);
                row[column] = 1;
                b.append(b.length() == 0 ? "" : "; ").append(told(row));
            }
            return b.toString();
        }

        /** How many words of a degree are standard. */
        public int standard(int degree) {
            int number = 0;
            for (int column = 0; column < words.size(); column++) {
                if (degree(words.get(column)) == degree && rows[column] == null) {
                    number++;
                }
            }
            return number;
        }
    }

    public Plain(int prime, int letters, char order, int most) {
        this.prime = prime;
        this.letters = letters;
        this.order = order;
        this.most = most;
        words = Calls.words(letters, most, order);
        for (int column = 0; column < words.size(); column++) {
            columns.put(code(words.get(column)), column);
        }
    }

    private static int code(int[] word) {
        return word[0] * 10000 + word[1] * 100 + word[2];
    }

    public static int degree(int[] word) {
        return word[0] + word[1] + word[2];
    }

    private static boolean divides(int[] part, int[] whole) {
        return part[0] <= whole[0] && part[1] <= whole[1] && part[2] <= whole[2];
    }

    /** The row of a polynomial told as "number xyz, number xyz"; of no text that of 0. */
    public int[] row(String polynomial) {
        int[] row = new int[words.size()];
        for (String term : polynomial.split(",")) {
            if (!term.isBlank()) {
                String[] t = term.trim().split(" ");
                int[] word = {t[1].charAt(0) - '0', t[1].charAt(1) - '0', t[1].charAt(2) - '0'};
                int column = columns.get(code(word));
                row[column] = Math.floorMod(row[column] + Integer.parseInt(t[0]), prime);
            }
        }
        return row;
    }

    /** The rows of polynomials apart by ';', those of 0 left out. */
    public List<int[]> rows(String polynomials) {
        List<int[]> rows = new ArrayList<>();
        for (String polynomial : polynomials.split(";")) {
            int[] row = row(polynomial);
            if (first(row) >= 0) {
                rows.add(row);
            }
        }
        return rows;
    }

    /** A row, by falling words. */
    public String told(int[] row) {
        StringBuilder b = new StringBuilder();
        for (int column = 0; column < row.length; column++) {
            if (row[column] != 0) {
                int[] w = words.get(column);
                b.append(b.length() == 0 ? "" : " ").append(row[column]).append('.').append(w[0]).append(w[1]).append(w[2]);
            }
        }
        return b.toString();
    }

    public static int first(int[] row) {
        for (int column = 0; column < row.length; column++) {
            if (row[column] != 0) {
                return column;
            }
        }
        return -1;
    }

    /** The degree of a row, that of its first word: the orders go by degrees. */
    public int degreeOf(int[] row) {
        return first(row) < 0 ? 0 : degree(words.get(first(row)));
    }

    /** The product of two rows, null if it goes beyond the degree up to which there are columns. */
    public int[] product(int[] one, int[] other) {
        if (degreeOf(one) + degreeOf(other) > most) {
            return null;
        }
        int[] product = new int[words.size()];
        for (int i = 0; i < one.length; i++) {
            for (int j = 0; one[i] != 0 && j < other.length; j++) {
                if (other[j] != 0) {
                    int[] a = words.get(i);
                    int[] b = words.get(j);
                    int column = columns.get(code(new int[] {a[0] + b[0], a[1] + b[1], a[2] + b[2]}));
                    product[column] = (product[column] + one[i] * other[j]) % prime;
                }
            }
        }
        return product;
    }

    /** The row of a letter. */
    public int[] letter(int letter) {
        return row("1 " + (letter == 0 ? "100" : letter == 1 ? "010" : "001"));
    }

    private int inverse(int number) {
        int inverse = 1;
        while (inverse * number % prime != 1) {
            inverse++;
        }
        return inverse;
    }

    private void scale(int[] row, int factor) {
        for (int column = 0; column < row.length; column++) {
            row[column] = row[column] * factor % prime;
        }
    }

    private void subtract(int[] row, int[] other, int times) {
        for (int column = 0; column < row.length; column++) {
            if (other[column] != 0) {
                row[column] = (row[column] + (prime - times) * other[column]) % prime;
            }
        }
    }

    /** What some polynomials generate: all letters times what is there, again and again, up to the degree. */
    public Space generated(List<int[]> polynomials) {
        Space space = new Space(most);
        Deque<int[]> waiting = new ArrayDeque<>(polynomials);
        while (!waiting.isEmpty()) {
            int[] row = space.add(waiting.remove());
            for (int letter = 0; row != null && letter < letters; letter++) {
                int[] product = product(letter(letter), row);
                if (product != null) {
                    waiting.add(product);
                }
            }
        }
        return space;
    }

    /** All sums of rows whose images, by the same sums, are 0. */
    private Space kernel(List<int[]> rows, List<int[]> images, int degree) {
        Space kernel = new Space(degree);
        int length = images.isEmpty() ? 0 : images.get(0).length;
        int[][] pivots = new int[length][];
        int[][] pivotRows = new int[length][];
        for (int i = 0; i < rows.size(); i++) {
            int[] row = rows.get(i).clone();
            int[] image = images.get(i).clone();
            int column = 0;
            while (column < length && (image[column] == 0 || pivots[column] != null)) {
                int times = image[column];
                if (times != 0) {
                    subtract(image, pivots[column], times);
                    subtract(row, pivotRows[column], times);
                }
                column++;
            }
            if (column == length) {
                kernel.add(row);
            } else {
                int inverse = inverse(image[column]);
                scale(image, inverse);
                scale(row, inverse);
                pivots[column] = image;
                pivotRows[column] = row;
            }
        }
        return kernel;
    }

    /** What two spaces have in common. */
    public Space meet(Space one, Space other) {
        List<int[]> rows = new ArrayList<>();
        List<int[]> images = new ArrayList<>();
        for (int[] row : one.rows) {
            if (row != null) {
                rows.add(row);
                images.add(other.rest(row));
            }
        }
        return kernel(rows, images, Math.min(one.degree, other.degree));
    }

    /** What of a space is without a letter. */
    public Space without(Space space, int letter) {
        List<int[]> rows = new ArrayList<>();
        List<int[]> images = new ArrayList<>();
        for (int[] row : space.rows) {
            if (row != null) {
                int[] image = row.clone();
                for (int column = 0; column < image.length; column++) {
                    image[column] = words.get(column)[letter] > 0 ? image[column] : 0;
                }
                rows.add(row);
                images.add(image);
            }
        }
        return kernel(rows, images, space.degree);
    }

    /** What brings all of some polynomials into a space by product, up to the degree of which that can be told. */
    public Space quotient(Space space, List<int[]> polynomials) {
        int degree = space.degree;
        for (int[] polynomial : polynomials) {
            degree = Math.min(degree, space.degree - degreeOf(polynomial));
        }
        List<int[]> rows = new ArrayList<>();
        List<int[]> images = new ArrayList<>();
        for (int column = 0; column < words.size(); column++) {
            if (degree(words.get(column)) <= degree) {
                int[] row = new int[words.size()];
                row[column] = 1;
                int[] image = new int[words.size() * Math.max(1, polynomials.size())];
                for (int k = 0; k < polynomials.size(); k++) {
                    int[] rest = space.rest(product(row, polynomials.get(k)));
                    System.arraycopy(rest, 0, image, k * rest.length, rest.length);
                }
                rows.add(row);
                images.add(image);
            }
        }
        return kernel(rows, images, degree);
    }

    /** The quotient again and again, until nothing more comes; null if that cannot be told for words of the degree 7. */
    public Space saturation(Space space, List<int[]> polynomials) {
        Space now = space;
        while (true) {
            Space next = quotient(now, polynomials);
            if (next.degree < 7) {
                return null;
            }
            if (next.isInside(now)) {
                return next;
            }
            now = next;
        }
    }

    /** A number of the table of a graded ideal, by the map from the place i and the one to it. */
    public int table(Space space, int i, int j) {
        return sums(space, i, j).size() - rank(space, i, j) - rank(space, i + 1, j);
    }

    /** The sets of i letters with standard words of the degree j - i: a set, and a column, each. */
    private List<int[]> sums(Space space, int i, int j) {
        List<int[]> sums = new ArrayList<>();
        for (int set = 0; set < 1 << letters; set++) {
            for (int column = 0; column < words.size() && Integer.bitCount(set) == i; column++) {
                if (degree(words.get(column)) == j - i && space.rows[column] == null) {
                    sums.add(new int[] {set, column});
                }
            }
        }
        return sums;
    }

    private int rank(Space space, int i, int j) {
        if (i < 1 || i > letters) {
            return 0;
        }
        List<int[]> images = new ArrayList<>();
        for (int[] sum : sums(space, i, j)) {
            int[] image = new int[words.size() << letters];
            int[] word = new int[words.size()];
            word[sum[1]] = 1;
            int sign = 1;
            for (int letter = 0; letter < letters; letter++) {
                if ((sum[0] >> letter & 1) != 0) {
                    int[] rest = space.rest(product(letter(letter), word));
                    int from = (sum[0] - (1 << letter)) * words.size();
                    for (int column = 0; column < rest.length; column++) {
                        image[from + column] = Math.floorMod(sign * rest[column], prime);
                    }
                    sign = -sign;
                }
            }
            images.add(image);
        }
        return rankOf(images);
    }

    private int rankOf(List<int[]> rows) {
        int rank = 0;
        int[][] pivots = new int[words.size() << letters][];
        for (int[] row : rows) {
            int column = first(row);
            while (column >= 0 && pivots[column] != null) {
                subtract(row, pivots[column], row[column]);
                column = first(row);
            }
            if (column >= 0) {
                scale(row, inverse(row[column]));
                pivots[column] = row;
                rank++;
            }
        }
        return rank;
    }
}
