import java.util.Arrays;
import java.util.NoSuchElementException;

/** A foundry of ideals over small fields, and of sets of faces: see ../shared/DOC.md. */
public final class Syzygium {
    /** A bound for loops whose own end is sure, but not seen from their lines. */
    private static final int MANY = 1_000_000;
    private static final int MOST_IDEALS = 12;
    private static final int MOST_POLYNOMIALS = 12;
    private static final int MOST_DEGREE = 6;
    private static final int MOST_LISTED = 4;
    private static final int MOST_POWER = 4;
    private static final int MOST_SUM = 1_000_000;
    private static final int MOST_PART = 1_000;
    private static final int LAST_J = 18;
    private static final int POINTS = 6;
    /** From this degree on the polynomial of every ideal tells the number of standard words. */
    private static final int STEADY = 20;
    /** What lifts a word into the first part of a pair of polynomials, or gives it a power that counts first. */
    private static final long TOP = 1L << 36;

    private final Ring ring;
    private final Engine engine;
    private final Works works;
    private final Tables tables;
    private final Faces complex;
    private final Poly current;
    private final Basis list;
    private final Basis[] kept;
    private int count;

    /** Creates a foundry with the ring of x and y modulo 2 in the order g, without ideals and faces. */
    public Syzygium() {
        ring = new Ring();
        engine = new Engine(ring);
        works = new Works(engine);
        Matrix matrix = new Matrix(ring);
        tables = new Tables(engine, matrix);
        complex = new Faces(matrix);
        current = new Poly(ring);
        list = new Basis(ring, MOST_LISTED);
        kept = new Basis[MOST_IDEALS];
        for (int i = 0; i < MOST_IDEALS; i++) {
            kept[i] = new Basis(ring, MOST_POLYNOMIALS);
        }
    }

    public int begin(int prime, int letters, char order) throws IllegalArgumentException {
        boolean isPrime = prime == 2 || prime == 3 || prime == 5 || prime == 7;
        if (!isPrime || letters < 2 || letters > 3 || order != 'g' && order != 'd') {
            throw new IllegalArgumentException();
        }
        int before = count;
        ring.prime = prime;
        ring.letters = letters;
        ring.lastRules = order == 'g';
        ring.gone = -1;
        count = 0;
        list.count = 0;
        current.count = 0;
        return before;
    }

    public int term(int number, int x, int y, int z) throws IllegalArgumentException {
        if (!isPower(x) || !isPower(y) || !isPower(z) || x + y + z > MOST_POWER || z > 0 && ring.letters < 3) {
            throw new IllegalArgumentException();
        }
        int value = ring.mod(number);
        if (value > 0) {
            engine.clean();
            engine.bucket.empty();
            engine.bucket.add(current, 0, 0, 1);
            engine.bucket.addWord(ring.word(x, y, z), value);
            engine.drain();
            current.copy(engine.out, 0);
        }
        return current.count;
    }

    public int wipe() {
        int before = current.count;
        current.count = 0;
        return before;
    }

    public int push() throws UnsupportedOperationException, IllegalStateException {
        if (current.count == 0) {
            throw new UnsupportedOperationException();
        }
        if (list.count >= MOST_LISTED) {
            throw new IllegalStateException();
        }
        list.add(current, 0, Ring.degree(current.head()));
        current.count = 0;
        return list.count;
    }

    public int dropList() {
        int before = list.count;
        list.count = 0;
        return before;
    }

    public int ideal() throws UnsupportedOperationException, IllegalStateException {
        if (!works.generated(list)) {
            throw new UnsupportedOperationException();
        }
        if (count >= MOST_IDEALS) {
            throw new IllegalStateException();
        }
        list.count = 0;
        return keep();
    }

    public int ideals() {
        return count;
    }

    public int size(int ideal) throws IndexOutOfBoundsException {
        if (isMissing(ideal)) {
            throw new IndexOutOfBoundsException();
        }
        return basis(ideal).count;
    }

    public int lead(int ideal, int place, int letter) throws IndexOutOfBoundsException, IllegalArgumentException {
        if (isMissing(ideal) || isNoPlace(ideal, place)) {
            throw new IndexOutOfBoundsException();
        }
        if (isNoLetter(letter)) {
            throw new IllegalArgumentException();
        }
        return ring.power(basis(ideal).leadAt(place), letter);
    }

    public int words(int ideal, int place) throws IndexOutOfBoundsException {
        if (isMissing(ideal) || isNoPlace(ideal, place)) {
            throw new IndexOutOfBoundsException();
        }
        return basis(ideal).at(place).count;
    }

    public int numberOf(int ideal, int place, int x, int y, int z) throws IndexOutOfBoundsException {
        if (isMissing(ideal) || isNoPlace(ideal, place)) {
            throw new IndexOutOfBoundsException();
        }
        if (!isInBasis(x) || !isInBasis(y) || !isInBasis(z)) {
            return 0;
        }
        return basis(ideal).at(place).numberAt(ring.word(x, y, z));
    }

    public boolean has(int ideal) throws IndexOutOfBoundsException {
        if (isMissing(ideal)) {
            throw new IndexOutOfBoundsException();
        }
        engine.clean();
        engine.divide(current, basis(ideal));
        return engine.out.count == 0;
    }

    public int rest(int ideal) throws IndexOutOfBoundsException {
        if (isMissing(ideal)) {
            throw new IndexOutOfBoundsException();
        }
        engine.clean();
        engine.divide(current, basis(ideal));
        current.copy(engine.out, 0);
        return current.count;
    }

    public boolean inRadical(int ideal) throws IndexOutOfBoundsException {
        if (isMissing(ideal)) {
            throw new IndexOutOfBoundsException();
        }
        engine.clean();
        engine.divide(current, basis(ideal));
        if (engine.out.count == 0) {
            return true;
        }
        works.by.count = 0;
        works.by.add(current, 0, 0);
        return works.saturated(basis(ideal), works.by) && works.base.isAll();
    }

    public boolean isSame(int ideal, int other) throws IndexOutOfBoundsException {
        if (isMissing(ideal) || isMissing(other)) {
            throw new IndexOutOfBoundsException();
        }
        engine.clean();
        return engine.isInside(basis(ideal), basis(other)) && engine.isInside(basis(other), basis(ideal));
    }

    public boolean isWithin(int ideal, int other) throws IndexOutOfBoundsException {
        if (isMissing(ideal) || isMissing(other)) {
            throw new IndexOutOfBoundsException();
        }
        engine.clean();
        return engine.isInside(basis(ideal), basis(other));
    }

    public int join(char kind, int ideal, int other) throws IllegalArgumentException, IndexOutOfBoundsException,
            UnsupportedOperationException, IllegalStateException {
        if (kind != '+' && kind != '*' && kind != '&' && kind != ':' && kind != '~') {
            throw new IllegalArgumentException();
        }
        if (isMissing(ideal) || isMissing(other)) {
            throw new IndexOutOfBoundsException();
        }
        Basis first = basis(ideal);
        Basis second = basis(other);
        boolean isMade;
        switch (kind) {
            case '+':
                isMade = works.sum(first, second);
                break;
            case '*':
                isMade = works.product(first, second);
                break;
            case '&':
                isMade = works.meet(first, second);
                break;
            case ':':
                isMade = works.quotient(first, second) && works.isReady(works.brought);
                break;
            default:
                isMade = works.saturated(first, second) && works.isReady(works.base);
                break;
        }
        if (!isMade) {
            throw new UnsupportedOperationException();
        }
        if (count >= MOST_IDEALS) {
            throw new IllegalStateException();
        }
        return keep();
    }

    public int without(int ideal, int letter) throws IndexOutOfBoundsException, IllegalArgumentException,
            UnsupportedOperationException, IllegalStateException {
        if (isMissing(ideal)) {
            throw new IndexOutOfBoundsException();
        }
        if (isNoLetter(letter)) {
            throw new IllegalArgumentException();
        }
        int bound = works.binding(basis(ideal), letter);
        if (bound == Works.UNTOLD || bound == Works.NOT_BOUND && !works.freed(basis(ideal), letter)) {
            throw new UnsupportedOperationException();
        }
        if (count >= MOST_IDEALS) {
            throw new IllegalStateException();
        }
        return keep();
    }

    public boolean isGraded(int ideal) throws IndexOutOfBoundsException {
        if (isMissing(ideal)) {
            throw new IndexOutOfBoundsException();
        }
        return basis(ideal).isEven();
    }

    public int standard(int ideal, int degree) throws IndexOutOfBoundsException, IllegalArgumentException {
        if (isMissing(ideal)) {
            throw new IndexOutOfBoundsException();
        }
        if (degree < 0 || degree > 40) {
            throw new IllegalArgumentException();
        }
        return Words.free(ring, basis(ideal), degree);
    }

    public int standardAt(int ideal, int index, int letter) throws IndexOutOfBoundsException,
            IllegalArgumentException, NoSuchElementException {
        if (isMissing(ideal)) {
            throw new IndexOutOfBoundsException();
        }
        if (index < 0 || index > 99 || isNoLetter(letter)) {
            throw new IllegalArgumentException();
        }
        long word = Words.freeWord(ring, basis(ideal), index);
        if (word < 0) {
            throw new NoSuchElementException();
        }
        return ring.power(word, letter);
    }

    public long series(int ideal, int power) throws IndexOutOfBoundsException, IllegalArgumentException {
        if (isMissing(ideal)) {
            throw new IndexOutOfBoundsException();
        }
        if (power < 0 || power > 60) {
            throw new IllegalArgumentException();
        }
        return Words.numerator(ring, basis(ideal), power);
    }

    public long polynomial(int ideal, int degree) throws IndexOutOfBoundsException, IllegalArgumentException {
        if (isMissing(ideal)) {
            throw new IndexOutOfBoundsException();
        }
        if (degree < 0 || degree > 1_000_000) {
            throw new IllegalArgumentException();
        }
        return Words.value(ring, basis(ideal), degree);
    }

    public int dimension(int ideal) throws IndexOutOfBoundsException {
        if (isMissing(ideal)) {
            throw new IndexOutOfBoundsException();
        }
        return Words.freedom(ring, basis(ideal));
    }

    public long multiplicity(int ideal) throws IndexOutOfBoundsException {
        if (isMissing(ideal)) {
            throw new IndexOutOfBoundsException();
        }
        return Words.weight(ring, basis(ideal));
    }

    public int roots(int ideal) throws IndexOutOfBoundsException {
        if (isMissing(ideal)) {
            throw new IndexOutOfBoundsException();
        }
        return Words.zeros(ring, basis(ideal));
    }

    public int table(int ideal, int i, int j) throws IndexOutOfBoundsException, IllegalArgumentException,
            UnsupportedOperationException {
        if (isMissing(ideal)) {
            throw new IndexOutOfBoundsException();
        }
        if (i < 0 || i > ring.letters || j < 0 || j > LAST_J) {
            throw new IllegalArgumentException();
        }
        if (!basis(ideal).isEven()) {
            throw new UnsupportedOperationException();
        }
        return tables.numberAt(tables.fill(ideal, basis(ideal)), i, j);
    }

    public int length(int ideal) throws IndexOutOfBoundsException, UnsupportedOperationException {
        if (isMissing(ideal)) {
            throw new IndexOutOfBoundsException();
        }
        if (!basis(ideal).isEven()) {
            throw new UnsupportedOperationException();
        }
        return tables.lastPlace(tables.fill(ideal, basis(ideal)));
    }

    public int regularity(int ideal) throws IndexOutOfBoundsException, UnsupportedOperationException {
        if (isMissing(ideal)) {
            throw new IndexOutOfBoundsException();
        }
        if (!basis(ideal).isEven()) {
            throw new UnsupportedOperationException();
        }
        return tables.lastShift(tables.fill(ideal, basis(ideal)));
    }

    public int depth(int ideal) throws IndexOutOfBoundsException, UnsupportedOperationException {
        if (isMissing(ideal)) {
            throw new IndexOutOfBoundsException();
        }
        if (!basis(ideal).isEven()) {
            throw new UnsupportedOperationException();
        }
        int last = tables.lastPlace(tables.fill(ideal, basis(ideal)));
        return last < 0 ? -1 : ring.letters - last;
    }

    public boolean isOfWords(int ideal) throws IndexOutOfBoundsException {
        if (isMissing(ideal)) {
            throw new IndexOutOfBoundsException();
        }
        return basis(ideal).isBare();
    }

    public int components(int ideal) throws IndexOutOfBoundsException, UnsupportedOperationException {
        if (isMissing(ideal)) {
            throw new IndexOutOfBoundsException();
        }
        if (!basis(ideal).isBare()) {
            throw new UnsupportedOperationException();
        }
        return Words.number(ring, basis(ideal));
    }

    public int componentAt(int ideal, int index, int letter) throws IndexOutOfBoundsException,
            UnsupportedOperationException, IllegalArgumentException, NoSuchElementException {
        if (isMissing(ideal)) {
            throw new IndexOutOfBoundsException();
        }
        if (!basis(ideal).isBare()) {
            throw new UnsupportedOperationException();
        }
        if (isNoLetter(letter)) {
            throw new IllegalArgumentException();
        }
        int code = Words.codeAt(ring, basis(ideal), index);
        if (code < 0) {
            throw new NoSuchElementException();
        }
        return Words.power(code, letter);
    }

    public int primes(int ideal) throws IndexOutOfBoundsException, UnsupportedOperationException {
        if (isMissing(ideal)) {
            throw new IndexOutOfBoundsException();
        }
        if (!basis(ideal).isBare()) {
            throw new UnsupportedOperationException();
        }
        return Integer.bitCount(Words.letterSets(ring, basis(ideal)));
    }

    public int primeAt(int ideal, int index) throws IndexOutOfBoundsException, UnsupportedOperationException,
            NoSuchElementException {
        if (isMissing(ideal)) {
            throw new IndexOutOfBoundsException();
        }
        if (!basis(ideal).isBare()) {
            throw new UnsupportedOperationException();
        }
        int set = Words.bitAt(Words.letterSets(ring, basis(ideal)), index);
        if (set < 0) {
            throw new NoSuchElementException();
        }
        return set;
    }

    public int radical(int ideal) throws IndexOutOfBoundsException, UnsupportedOperationException,
            IllegalStateException {
        if (isMissing(ideal)) {
            throw new IndexOutOfBoundsException();
        }
        if (!basis(ideal).isBare()) {
            throw new UnsupportedOperationException();
        }
        if (count >= MOST_IDEALS) {
            throw new IllegalStateException();
        }
        works.flattened(basis(ideal));
        return keep();
    }

    public int put(int points) throws IllegalArgumentException {
        if (points < 1 || points > 63) {
            throw new IllegalArgumentException();
        }
        complex.include(points);
        return complex.facetCount();
    }

    public int clear() {
        int before = Long.bitCount(complex.sets);
        complex.sets = 0;
        return before;
    }

    public int faces(int dimension) throws IllegalArgumentException {
        if (dimension < -1 || dimension > 5) {
            throw new IllegalArgumentException();
        }
        return complex.countOf(dimension + 1);
    }

    public int facetAt(int index) throws NoSuchElementException {
        int facet = complex.facet(index);
        if (facet < 0) {
            throw new NoSuchElementException();
        }
        return facet;
    }

    public int holes(int dimension) throws IllegalArgumentException {
        if (dimension < -1 || dimension > 5) {
            throw new IllegalArgumentException();
        }
        int points = dimension + 1;
        return complex.countOf(points) - complex.rank(points, ring.prime) - complex.rank(points + 1, ring.prime);
    }

    public int dual() {
        complex.turn();
        return Long.bitCount(complex.sets);
    }

    public boolean canBeShelled() throws UnsupportedOperationException {
        int facets = complex.facetCount();
        if (facets == 0 || facets > Faces.MOST_SHELLED) {
            throw new UnsupportedOperationException();
        }
        return complex.hasRow();
    }

    public long ways(int one, int two, int three, int sum) throws IllegalArgumentException {
        if (!isPart(one) || !isPart(two) || !isPart(three) || sum < 0 || sum > MOST_SUM) {
            throw new IllegalArgumentException();
        }
        return waysOfThree(one, two, three, sum);
    }

    public float gradedShare() throws ArithmeticException {
        if (count == 0) {
            throw new ArithmeticException();
        }
        int graded = 0;
        for (int i = 0; i < count; i++) {
            if (basis(i).isEven()) {
                graded++;
            }
        }
        return (float) graded / (float) count;
    }

    public double meanSize() throws ArithmeticException {
        if (count == 0) {
            throw new ArithmeticException();
        }
        int sum = 0;
        for (int i = 0; i < count; i++) {
            sum += basis(i).count;
        }
        return (double) sum / (double) count;
    }

    public long checksum() {
        long sum = 7;
        for (int i = 0; i < count; i++) {
            for (int place = 0; place < basis(i).count; place++) {
                Poly p = basis(i).at(place);
                for (int k = 0; k < p.count; k++) {
                    sum = 31 * sum + ring.mark(p.get(k));
                }
            }
        }
        return sum;
    }

    public boolean isSound() {
        engine.clean();
        for (int i = 0; i < count; i++) {
            Basis basis = basis(i);
            if (!engine.isClosed(basis)) {
                return false;
            }
            boolean isSmall = ring.letters <= 2 || basis.count <= 4;
            if (isSmall && basis.isEven() && !tables.tellSeries(i, basis)) {
                return false;
            }
            if (basis.isBare() && !Words.meetIn(ring, basis)) {
                return false;
            }
        }
        return true;
    }

    /** Keeps what the works hold ready as the next ideal; the caller has looked that there is a place. */
    private int keep() {
        if (count >= MOST_IDEALS) {
            return -1;
        }
        engine.deliver(kept[count]);
        tables.forget(count);
        count++;
        return count - 1;
    }

    private boolean isMissing(int ideal) {
        return ideal < 0 || ideal >= count || ideal >= kept.length;
    }

    /** The basis of an ideal that is known to be there. */
    private Basis basis(int ideal) {
        return kept[ideal < 0 || ideal >= kept.length ? 0 : ideal];
    }

    private boolean isNoPlace(int ideal, int place) {
        return place < 0 || place >= basis(ideal).count;
    }

    private boolean isNoLetter(int letter) {
        return letter < 0 || letter >= ring.letters;
    }

    private static boolean isPower(int power) {
        return power >= 0 && power <= MOST_POWER;
    }

    private static boolean isInBasis(int power) {
        return power >= 0 && power <= MOST_DEGREE;
    }

    private static boolean isPart(int number) {
        return number >= 1 && number <= MOST_PART;
    }

    /**
     * Takes the greatest number so many times; what is left is reached by the two others, if their greatest common
     * divisor divides it, in ways that grow by 1 with each common multiple of these: one look serves for all
     * takings that differ by such multiples.
     */
    private static long waysOfThree(int one, int two, int three, int sum) {
        int great = Math.max(one, Math.max(two, three));
        int small = Math.min(one, Math.min(two, three));
        int middle = one + two + three - great - small;
        int gcd = divisor(middle, small);
        if (gcd < 1 || great < 1) {
            return 0;
        }
        int common = middle / gcd * small;
        int period = common / Math.max(1, divisor(great, common));
        long growth = (long) period * great / Math.max(1, common);
        long ways = 0;
        int most = sum / great;
        for (int times = 0; times <= most && times < period; times++) {
            long terms = (most - times) / Math.max(1, period) + 1;
            long last = sum - great * (times + (terms - 1) * period);
            if (last % gcd == 0) {
                ways += terms * waysOfTwo(middle, small, common, (int) last) + growth * (terms * (terms - 1) / 2);
            }
        }
        return ways;
    }

    /** In how many ways two numbers, whose least common multiple is told, reach a sum. */
    private static long waysOfTwo(int one, int two, int common, int sum) {
        for (int part = 0; part < common && part <= sum; part += Math.max(1, one)) {
            if (two > 0 && (sum - part) % two == 0) {
                return (sum - part) / Math.max(1, common) + 1;
            }
        }
        return 0;
    }

    private static int divisor(int one, int other) {
        int a = one;
        int b = other;
        for (int step = 0; step < MANY && b > 0; step++) {
            int left = a % b;
            a = b;
            b = left;
        }
        return a;
    }

    /**
     * The ring, and its words as numbers that are ordered like the words and add up when these are multiplied:
     * three fields of 12 bits, the degree and two sums of powers that decide after it, and above them a top.
     */
    private static final class Ring {
        int prime = 2;
        int letters = 2;
        boolean lastRules = true;
        /** The letter that is to go, whose power is the top of each word then; -1 if there is none. */
        int gone = -1;
        /** What may still be allotted to rows that grow: all calls of a run share it. */
        int room = 3_500_000;
        /** Whether something did not fit: what is being made is then given up. */
        boolean isFull;

        /** Whether there is room for so many elements, which are taken from it then. */
        boolean allots(int elements) {
            if (elements < 0 || elements > room) {
                isFull = true;
                return false;
            }
            room -= elements;
            return true;
        }

        int mod(int number) {
            return prime < 2 ? 0 : Math.floorMod(number, prime);
        }

        int inverse(int number) {
            for (int other = 1; other < prime; other++) {
                if (mod(number * other) == 1) {
                    return other;
                }
            }
            return 0;
        }

        long word(int x, int y, int z) {
            long both = x + y;
            return both + z << 24 | (lastRules ? both << 12 | x : (long) x << 12 | both);
        }

        static int degree(long word) {
            return (int) (word >> 24) & 4095;
        }

        int power(long word, int letter) {
            int low = (int) word & 4095;
            int middle = (int) (word >> 12) & 4095;
            int x = lastRules ? low : middle;
            int both = lastRules ? middle : low;
            if (letter == 0) {
                return x;
            }
            return letter == 1 ? both - x : ((int) (word >> 24) & 4095) - both;
        }

        /** Whether three fields are those of a word of this ring. */
        boolean isWord(int degree, int middle, int low) {
            int x = lastRules ? low : middle;
            int both = lastRules ? middle : low;
            return x >= 0 && x <= both && both <= degree && (letters > 2 || both == degree);
        }

        boolean divides(long part, long whole) {
            int low = ((int) whole & 4095) - ((int) part & 4095);
            int middle = ((int) (whole >> 12) & 4095) - ((int) (part >> 12) & 4095);
            int degree = ((int) (whole >> 24) & 4095) - ((int) (part >> 24) & 4095);
            int x = lastRules ? low : middle;
            int both = lastRules ? middle : low;
            return x >= 0 && x <= both && both <= degree && (gone >= 0 || whole >> 36 == part >> 36);
        }

        /** The least common multiple of two words with the same top. */
        long common(long one, long other) {
            int lowOne = (int) one & 4095;
            int lowOther = (int) other & 4095;
            int middleOne = (int) (one >> 12) & 4095;
            int middleOther = (int) (other >> 12) & 4095;
            int bothOne = lastRules ? middleOne : lowOne;
            int bothOther = lastRules ? middleOther : lowOther;
            int xOne = lastRules ? lowOne : middleOne;
            int xOther = lastRules ? lowOther : middleOther;
            int x = Math.max(xOne, xOther);
            int y = Math.max(bothOne - xOne, bothOther - xOther);
            int z = Math.max(((int) (one >> 24) & 4095) - bothOne, ((int) (other >> 24) & 4095) - bothOther);
            long top = one >> 36;
            if (gone >= 0) {
                top = gone == 0 ? x : gone == 1 ? y : z;
            }
            long both = x + y;
            return top << 36 | both + z << 24 | (lastRules ? both << 12 | x : (long) x << 12 | both);
        }

        /** What a word counts in the sum over all bases. */
        long mark(long term) {
            long word = term >> 3;
            return (term & 7) + 11L * power(word, 0) + 17L * power(word, 1) + 23L * power(word, 2);
        }
    }

    /** A polynomial: terms by falling words, each a word times 8 and its number. */
    private static final class Poly {
        final Ring ring;
        long[] terms = new long[8];
        int count;

        Poly(Ring ring) {
            this.ring = ring;
        }

        /** Sees to it that there is a place for so many terms. */
        boolean make(int number) {
            if (number <= terms.length) {
                return true;
            }
            int wish = number + number / 2 + 4;
            if (wish < 0 || wish > ring.room) {
                ring.isFull = true;
                return false;
            }
            ring.room -= wish;
            terms = Arrays.copyOf(terms, wish);
            return true;
        }

        void append(long term) {
            if (count >= 0 && make(count + 1) && count < terms.length) {
                terms[count] = term;
                count++;
            }
        }

        long get(int index) {
            return index >= 0 && index < count && index < terms.length ? terms[index] : 0;
        }

        long head() {
            return get(0) >> 3;
        }

        int numberAt(long word) {
            for (int i = 0; i < count; i++) {
                if (get(i) >> 3 == word) {
                    return (int) get(i) & 7;
                }
            }
            return 0;
        }

        boolean isEven() {
            return Ring.degree(get(0) >> 3) == Ring.degree(get(count - 1) >> 3);
        }

        /** Becomes another one, each word lifted. */
        void copy(Poly other, long lift) {
            int number = Math.min(other.count, other.terms.length);
            count = 0;
            if (make(number)) {
                for (int i = 0; i < number && i < terms.length; i++) {
                    terms[i] = other.terms[i] + (lift << 3);
                    count++;
                }
            }
        }

        /** Multiplies all numbers by one. */
        void scale(int factor) {
            for (int i = 0; i < count && i < terms.length; i++) {
                terms[i] = terms[i] & ~7L | ring.mod(((int) terms[i] & 7) * factor);
            }
        }
    }

    /** A row of polynomials, whose places are used again. */
    private static final class Basis {
        static final int MOST = 4000;
        final Ring ring;
        final Poly nothing;
        Poly[] item;
        long[] lead;
        int[] rank;
        boolean[] off;
        int count;

        Basis(Ring ring, int places) {
            this.ring = ring;
            nothing = new Poly(ring);
            item = new Poly[places];
            lead = new long[places];
            rank = new int[places];
            off = new boolean[places];
        }

        /** Adds a copy with each word lifted; its rank is the degree from which it comes. */
        void add(Poly p, long lift, int degree) {
            if (count < 0 || p.count == 0 || !hasPlace()) {
                return;
            }
            if (item[count] == null) {
                item[count] = new Poly(ring);
            }
            item[count].copy(p, lift);
            lead[count] = p.head() + lift;
            rank[count] = degree;
            off[count] = false;
            count++;
        }

        private boolean hasPlace() {
            if (count < item.length) {
                return true;
            }
            int places = item.length * 2;
            if (places > MOST) {
                ring.isFull = true;
                return false;
            }
            if (!ring.allots(places * 4)) {
                return false;
            }
            Poly[] more = new Poly[places];
            for (int i = 0; i < item.length; i++) {
                more[i] = item[i];
            }
            item = more;
            lead = Arrays.copyOf(lead, places);
            rank = Arrays.copyOf(rank, places);
            boolean[] still = new boolean[places];
            for (int i = 0; i < off.length; i++) {
                still[i] = off[i];
            }
            off = still;
            return true;
        }

        boolean isLive(int place) {
            return place >= 0 && place < count && place < off.length && !off[place];
        }

        Poly at(int place) {
            Poly p = place >= 0 && place < item.length ? item[place] : null;
            return p == null ? nothing : p;
        }

        long leadAt(int place) {
            return place >= 0 && place < lead.length ? lead[place] : 0;
        }

        int rankAt(int place) {
            return place >= 0 && place < rank.length ? rank[place] : 0;
        }

        void drop(int place) {
            if (place >= 0 && place < off.length) {
                off[place] = true;
            }
        }

        /** The place of a polynomial whose leading word divides this word, -1 if there is none. */
        int divisorOf(long word) {
            int number = Math.min(count, lead.length);
            for (int i = 0; i < number && i < off.length; i++) {
                if (!off[i] && ring.divides(lead[i], word)) {
                    return i;
                }
            }
            return -1;
        }

        /** The place of the live polynomial without a top that has the least leading word above this one, or -1. */
        int nextAfter(long word) {
            int best = -1;
            for (int i = 0; i < count; i++) {
                long mine = leadAt(i);
                if (isLive(i) && mine < TOP && mine > word && (best < 0 || mine < leadAt(best))) {
                    best = i;
                }
            }
            return best;
        }

        /** How many live polynomials without a top have a leading word of at most this degree. */
        int liveUpTo(int degree) {
            int number = 0;
            for (int i = 0; i < count; i++) {
                if (isLive(i) && leadAt(i) < TOP && Ring.degree(leadAt(i)) <= degree) {
                    number++;
                }
            }
            return number;
        }

        /** Whether each polynomial has words of one degree alone. */
        boolean isEven() {
            for (int i = 0; i < count; i++) {
                if (!at(i).isEven()) {
                    return false;
                }
            }
            return true;
        }

        /** Whether each polynomial is a word. */
        boolean isBare() {
            for (int i = 0; i < count; i++) {
                if (at(i).count != 1) {
                    return false;
                }
            }
            return true;
        }

        boolean isAll() {
            return count == 1 && leadAt(0) == 0;
        }
    }

    /** A sum that is being made, in parts of rising sizes, so that adding a little to much costs little. */
    private static final class Bucket {
        private static final int LEVELS = 11;
        final Ring ring;
        final Poly[] part = new Poly[LEVELS];
        final int[] first = new int[LEVELS];
        final Poly single;
        Poly spare;

        Bucket(Ring ring) {
            this.ring = ring;
            for (int i = 0; i < LEVELS; i++) {
                part[i] = new Poly(ring);
            }
            spare = new Poly(ring);
            single = new Poly(ring);
        }

        void empty() {
            for (int i = 0; i < LEVELS; i++) {
                part[i].count = 0;
                first[i] = 0;
            }
        }

        void addWord(long word, int number) {
            single.count = 0;
            single.append(word << 3 | 1);
            add(single, 0, 0, number);
        }

        /** Adds a number times a word times what a polynomial has from a place on. */
        void add(Poly p, int start, long word, int number) {
            if (start < 0 || start >= p.count || number < 1) {
                return;
            }
            int level = levelOf(p.count - start);
            merge(level, p, start, word << 3, number);
            for (int k = level; k + 1 < LEVELS && part[k].count - first[k] > 4 << 2 * k; k++) {
                merge(k + 1, part[k], first[k], 0, 1);
                part[k].count = 0;
                first[k] = 0;
            }
        }

        private void merge(int level, Poly p, int start, long shift, int factor) {
            int prime = ring.prime;
            if (level < 0 || level >= LEVELS || start < 0 || prime < 2) {
                return;
            }
            Poly mine = part[level];
            int i = Math.max(0, first[level]);
            int n = Math.min(mine.count, mine.terms.length);
            int j = start;
            int m = Math.min(p.count, p.terms.length);
            if (!spare.make(n - i + m - j)) {
                return;
            }
            long[] a = mine.terms;
            long[] b = p.terms;
            long[] c = spare.terms;
            int to = 0;
            while ((i < n || j < m) && to < c.length) {
                long left = i < n ? a[i] : -1;
                long right = j < m ? b[j] + shift : -1;
                if (left >> 3 > right >> 3) {
                    c[to] = left;
                    to++;
                    i++;
                } else {
                    int sum = factor * ((int) right & 7);
                    if (left >> 3 == right >> 3) {
                        sum += (int) left & 7;
                        i++;
                    }
                    sum %= prime;
                    if (sum != 0) {
                        c[to] = right & ~7L | sum;
                        to++;
                    }
                    j++;
                }
            }
            spare.count = to;
            part[level] = spare;
            first[level] = 0;
            spare = mine;
        }

        private static int levelOf(int number) {
            int level = 0;
            while (level + 1 < LEVELS && 4 << 2 * level < number) {
                level++;
            }
            return level;
        }

        /** Takes the greatest term away and returns it, 0 if there is none. */
        long take() {
            for (int turn = 0; turn < MANY; turn++) {
                long best = -1;
                for (int k = 0; k < LEVELS; k++) {
                    if (first[k] < part[k].count) {
                        best = Math.max(best, part[k].get(first[k]) >> 3);
                    }
                }
                if (best < 0) {
                    return 0;
                }
                int sum = 0;
                for (int k = 0; k < LEVELS; k++) {
                    long term = part[k].get(first[k]);
                    if (first[k] < part[k].count && term >> 3 == best) {
                        sum += (int) term & 7;
                        first[k]++;
                    }
                }
                sum = ring.mod(sum);
                if (sum != 0) {
                    return best << 3 | sum;
                }
            }
            return 0;
        }
    }

    /** Pairs of polynomials whose leading words are still to go out against each other. */
    private static final class Pairs {
        static final int MOST = 60_000;
        final Ring ring;
        int[] one = new int[64];
        int[] other = new int[64];
        int[] rank = new int[64];
        long[] common = new long[64];
        boolean[] idle = new boolean[64];
        int count;

        Pairs(Ring ring) {
            this.ring = ring;
        }

        boolean add(int first, int second, long word, int degree, boolean isIdle) {
            if (count < 0 || count >= one.length && !grow()) {
                return false;
            }
            one[count] = first;
            other[count] = second;
            common[count] = word;
            rank[count] = degree;
            idle[count] = isIdle;
            count++;
            return true;
        }

        private boolean grow() {
            int places = one.length * 2;
            if (places > MOST) {
                ring.isFull = true;
                return false;
            }
            if (!ring.allots(places * 5)) {
                return false;
            }
            one = Arrays.copyOf(one, places);
            other = Arrays.copyOf(other, places);
            rank = Arrays.copyOf(rank, places);
            common = Arrays.copyOf(common, places);
            boolean[] more = new boolean[places];
            for (int i = 0; i < idle.length; i++) {
                more[i] = idle[i];
            }
            idle = more;
            return true;
        }

        boolean isPlace(int place) {
            return place >= 0 && place < count && place < one.length;
        }

        /** The last pair takes the place of this one. */
        void remove(int place) {
            if (!isPlace(place) || !isPlace(count - 1)) {
                return;
            }
            count--;
            one[place] = one[count];
            other[place] = other[count];
            common[place] = common[count];
            rank[place] = rank[count];
            idle[place] = idle[count];
        }

        int rankAt(int place) {
            return isPlace(place) ? rank[place] : 0;
        }

        /** The pair that is to come next, -1 if there is none. */
        int best() {
            int best = -1;
            for (int i = 0; i < count && i < rank.length && i < common.length; i++) {
                if (best < 0 || rank[i] < rank[best] || rank[i] == rank[best] && common[i] < common[best]) {
                    best = i;
                }
            }
            return best;
        }

        /** Drops pairs from a place on that follow from another one there, and then those that are idle. */
        void sift(int start) {
            for (int i = count - 1; i >= start && isPlace(i); i--) {
                boolean isCovered = false;
                for (int k = Math.max(start, 0); k < count && !idle[i] && !isCovered; k++) {
                    isCovered = k != i && isPlace(k) && ring.divides(common[k], common[i]);
                }
                if (isCovered) {
                    remove(i);
                }
            }
            for (int i = count - 1; i >= start && isPlace(i); i--) {
                if (idle[i]) {
                    remove(i);
                }
            }
        }
    }

    /** Makes bases: all differences by which two leading words go out are divided by what is there, again and again. */
    private static final class Engine {
        /** No word on the way may come near the 4095 that a field holds. */
        private static final int MOST_ON_THE_WAY = 1000;
        final Ring ring;
        final Bucket bucket;
        final Basis work;
        final Basis queue;
        final Basis none;
        final Pairs pairs;
        final Poly out;
        /** Whether all is graded, so that a polynomial that is refused may be told when it comes. */
        boolean isStrict;
        /** Whether no new polynomial without a top may come. */
        boolean isSealed;
        private int rank;

        Engine(Ring ring) {
            this.ring = ring;
            bucket = new Bucket(ring);
            work = new Basis(ring, 64);
            queue = new Basis(ring, 64);
            none = new Basis(ring, 1);
            pairs = new Pairs(ring);
            out = new Poly(ring);
        }

        void clean() {
            work.count = 0;
            queue.count = 0;
            pairs.count = 0;
            isStrict = false;
            isSealed = false;
            ring.isFull = false;
        }

        /** Takes in polynomials whose differences need no look: they are a basis by themselves. */
        void know(Basis basis, long lift) {
            for (int i = 0; i < basis.count; i++) {
                if (basis.isLive(i)) {
                    work.add(basis.at(i), lift, Ring.degree(basis.leadAt(i)));
                }
            }
        }

        /** Puts polynomials in line to be taken in. */
        void line(Basis basis) {
            for (int i = 0; i < basis.count; i++) {
                if (basis.isLive(i)) {
                    queue.add(basis.at(i), 0, Ring.degree(basis.leadAt(i)));
                }
            }
        }

        /** Makes the basis of all that has been taken in or put in line; false if it is refused. */
        boolean run() {
            for (int step = 0; step < MANY; step++) {
                int pair = pairs.best();
                int next = nextInLine();
                if (ring.isFull) {
                    return false;
                }
                if (pair < 0 && next < 0) {
                    return true;
                }
                bucket.empty();
                if (next >= 0 && (pair < 0 || queue.rankAt(next) <= pairs.rankAt(pair))) {
                    rank = queue.rankAt(next);
                    bucket.add(queue.at(next), 0, 0, 1);
                    queue.drop(next);
                } else if (pairs.isPlace(pair)) {
                    rank = pairs.rankAt(pair);
                    addDifference(work, pairs.one[pair], pairs.other[pair], pairs.common[pair]);
                    pairs.remove(pair);
                }
                drainBy(work);
                if (out.count > 0) {
                    if (isUnwelcome()) {
                        return false;
                    }
                    out.scale(ring.inverse((int) out.get(0) & 7));
                    work.add(out, 0, ring.gone < 0 ? Ring.degree(out.head()) : rank);
                    if (ring.isFull) {
                        return false;
                    }
                    pairUp(work.count - 1);
                    if (isStrict && isTooLarge()) {
                        return false;
                    }
                }
            }
            return false;
        }

        private int nextInLine() {
            int best = -1;
            for (int i = 0; i < queue.count; i++) {
                if (queue.isLive(i) && (best < 0 || queue.rankAt(i) < queue.rankAt(best)
                        || queue.rankAt(i) == queue.rankAt(best) && queue.leadAt(i) < queue.leadAt(best))) {
                    best = i;
                }
            }
            return best;
        }

        /** Adds the difference of two polynomials that are raised to a word which goes out. */
        private void addDifference(Basis basis, int one, int other, long word) {
            bucket.add(basis.at(one), 1, word - basis.leadAt(one), 1);
            bucket.add(basis.at(other), 1, word - basis.leadAt(other), ring.prime - 1);
        }

        /** Empties the bucket into `out`. */
        void drain() {
            drainBy(none);
        }

        /** Empties the bucket into `out`, as the rest by a basis. */
        void drainBy(Basis basis) {
            out.count = 0;
            for (int step = 0; step < MANY; step++) {
                long term = bucket.take();
                if (term == 0 || ring.isFull) {
                    return;
                }
                long word = term >> 3;
                int place = basis.divisorOf(word);
                if (place < 0) {
                    out.append(term);
                } else {
                    long by = word - basis.leadAt(place);
                    rank = Math.max(rank, basis.rankAt(place) + Ring.degree(by));
                    bucket.add(basis.at(place), 1, by, ring.prime - ((int) term & 7));
                }
            }
            ring.isFull = true;
        }

        private boolean isUnwelcome() {
            return Ring.degree(out.head()) > MOST_ON_THE_WAY || isSealed && out.head() < TOP;
        }

        /** Whether the newest polynomial of a graded ideal, whose lower ones are all there, makes it too large. */
        private boolean isTooLarge() {
            long lead = out.head();
            int degree = Ring.degree(lead);
            return lead < TOP && (degree > MOST_DEGREE || work.liveUpTo(degree) > MOST_POLYNOMIALS);
        }

        /** Makes the pairs of the newest polynomial, and drops what need not be looked at for its sake. */
        private void pairUp(int newest) {
            long lead = work.leadAt(newest);
            int degree = Ring.degree(lead);
            boolean isPlain = ring.gone >= 0 || lead < TOP;
            dropFollowing(lead);
            int start = pairs.count;
            for (int i = 0; i < newest; i++) {
                long mine = work.leadAt(i);
                if (work.isLive(i) && (ring.gone >= 0 || mine >> 36 == lead >> 36)) {
                    long word = ring.common(mine, lead);
                    int least = Ring.degree(mine);
                    int whole = Ring.degree(word);
                    int from = Math.max(work.rankAt(i) + whole - least, work.rankAt(newest) + whole - degree);
                    boolean isIdle = isPlain && whole == degree + least;
                    if (!pairs.add(i, newest, word, ring.gone < 0 ? whole : from, isIdle)) {
                        return;
                    }
                }
            }
            pairs.sift(start);
            for (int i = 0; i < newest; i++) {
                if (work.isLive(i) && ring.divides(lead, work.leadAt(i))) {
                    work.drop(i);
                }
            }
        }

        /** Drops old pairs that follow from the two that their polynomials make with the newest one. */
        private void dropFollowing(long lead) {
            for (int i = pairs.count - 1; i >= 0 && pairs.isPlace(i); i--) {
                long word = pairs.common[i];
                if (ring.divides(lead, word) && ring.common(work.leadAt(pairs.one[i]), lead) != word
                        && ring.common(work.leadAt(pairs.other[i]), lead) != word) {
                    pairs.remove(i);
                }
            }
        }

        /** Whether what has been made is small enough to be kept. */
        boolean fits() {
            int live = work.liveUpTo(MANY);
            return live <= MOST_POLYNOMIALS && live == work.liveUpTo(MOST_DEGREE);
        }

        /** Copies what has no top, as it is. */
        void give(Basis target) {
            target.count = 0;
            for (int i = 0; i < work.count; i++) {
                if (work.isLive(i) && work.leadAt(i) < TOP) {
                    target.add(work.at(i), 0, 0);
                }
            }
        }

        /** Copies what has no top, in its order, each with standard words alone behind the leading one. */
        void deliver(Basis target) {
            target.count = 0;
            long last = -1;
            for (int i = 0; i < MOST_POLYNOMIALS; i++) {
                int place = work.nextAfter(last);
                if (place < 0) {
                    return;
                }
                last = work.leadAt(place);
                bucket.empty();
                bucket.add(work.at(place), 1, 0, 1);
                drainBy(work);
                int before = target.count;
                bucket.empty();
                bucket.addWord(last, 1);
                bucket.add(out, 0, 0, 1);
                drain();
                target.add(out, 0, 0);
                if (target.count == before) {
                    return;
                }
            }
        }

        /** Makes `out` the rest of a polynomial by a basis. */
        void divide(Poly p, Basis basis) {
            bucket.empty();
            bucket.add(p, 0, 0, 1);
            drainBy(basis);
        }

        boolean isInside(Basis basis, Basis whole) {
            for (int i = 0; i < basis.count; i++) {
                if (basis.isLive(i)) {
                    divide(basis.at(i), whole);
                    if (out.count > 0) {
                        return false;
                    }
                }
            }
            return true;
        }

        /** Whether all differences by which two leading words of a basis go out have the rest 0. */
        boolean isClosed(Basis basis) {
            for (int i = 0; i < basis.count; i++) {
                for (int j = 0; j < i; j++) {
                    bucket.empty();
                    addDifference(basis, i, j, ring.common(basis.leadAt(i), basis.leadAt(j)));
                    drainBy(basis);
                    if (out.count > 0) {
                        return false;
                    }
                }
            }
            return true;
        }
    }

    /** Makes new ideals of old ones; what is made stands ready in the engine. */
    private static final class Works {
        static final int NOT_BOUND = 0;
        static final int BOUND = 1;
        static final int UNTOLD = 2;
        final Engine engine;
        final Basis base;
        final Basis brought;
        final Basis by;
        final Basis found;
        final Basis rows;
        final Basis none;
        final Poly one;
        final Poly made;

        Works(Engine engine) {
            this.engine = engine;
            Ring ring = engine.ring;
            base = new Basis(ring, 16);
            brought = new Basis(ring, 16);
            by = new Basis(ring, 16);
            found = new Basis(ring, 32);
            rows = new Basis(ring, 32);
            none = new Basis(ring, 1);
            one = new Poly(ring);
            one.append(1);
            made = new Poly(ring);
        }

        boolean generated(Basis list) {
            engine.clean();
            engine.isStrict = list.isEven();
            for (int i = 0; i < list.count; i++) {
                engine.queue.add(list.at(i), 0, Ring.degree(list.leadAt(i)));
            }
            return engine.run() && engine.fits();
        }

        /** Takes what has been made into the engine; false if it is too large to be kept. */
        boolean isReady(Basis basis) {
            engine.clean();
            engine.know(basis, 0);
            return engine.fits() && !engine.ring.isFull;
        }

        boolean sum(Basis first, Basis second) {
            engine.clean();
            engine.isStrict = first.isEven() && second.isEven();
            engine.know(first, 0);
            engine.line(second);
            return engine.run() && engine.fits();
        }

        boolean product(Basis first, Basis second) {
            engine.clean();
            engine.isStrict = first.isEven() && second.isEven();
            for (int i = 0; i < first.count; i++) {
                for (int j = 0; j < second.count; j++) {
                    engine.bucket.empty();
                    addProduct(first.at(i), second.at(j));
                    engine.drain();
                    engine.queue.add(engine.out, 0, Ring.degree(engine.out.head()));
                }
            }
            return engine.run() && engine.fits();
        }

        private void addProduct(Poly first, Poly second) {
            for (int k = 0; k < first.count; k++) {
                engine.bucket.add(second, 0, first.get(k) >> 3, (int) first.get(k) & 7);
            }
        }

        boolean meet(Basis first, Basis second) {
            engine.clean();
            if (first.count == 0 || second.count == 0) {
                return true;
            }
            find(first, second, -1);
            if (!isFoundSmall()) {
                return false;
            }
            engine.clean();
            engine.know(first, TOP);
            engine.know(found, 0);
            lineUp(first, second, one);
            engine.isSealed = true;
            return engine.run() && isReady(found);
        }

        /**
         * Puts pairs in line: a polynomial that may be in the result, and above it the rest of its product with
         * p by the basis of what this is to be in; returns whether there is any rest other than 0.
         */
        private boolean lineUp(Basis into, Basis from, Poly p) {
            boolean isAny = false;
            for (int i = 0; i < from.count; i++) {
                if (!from.isLive(i)) {
                    continue;
                }
                engine.bucket.empty();
                addProduct(from.at(i), p);
                engine.drainBy(into);
                isAny |= engine.out.count > 0;
                made.copy(engine.out, TOP);
                for (int k = 0; k < from.at(i).count; k++) {
                    made.append(from.at(i).get(k));
                }
                engine.queue.add(made, 0, Ring.degree(made.head()));
            }
            return isAny;
        }

        /** Makes `brought` what brings all of an ideal into another one by product. */
        boolean quotient(Basis into, Basis all) {
            brought.count = 0;
            brought.add(one, 0, 0);
            for (int i = 0; i < all.count; i++) {
                engine.clean();
                engine.know(into, TOP);
                engine.know(into, 0);
                boolean isNarrowed = all.isLive(i) && lineUp(into, brought, all.at(i));
                if (engine.ring.isFull || isNarrowed && !engine.run()) {
                    return false;
                }
                if (isNarrowed) {
                    engine.give(brought);
                }
            }
            return !engine.ring.isFull;
        }

        /** Makes `base` the saturation. */
        boolean saturated(Basis first, Basis second) {
            copy(first, base);
            for (int turn = 0; turn < MANY; turn++) {
                if (!quotient(base, second)) {
                    return false;
                }
                if (engine.isInside(brought, base)) {
                    return true;
                }
                copy(brought, base);
            }
            return false;
        }

        private static void copy(Basis from, Basis to) {
            to.count = 0;
            for (int i = 0; i < from.count; i++) {
                if (from.isLive(i)) {
                    to.add(from.at(i), 0, 0);
                }
            }
        }

        /** Makes ready what an ideal has without a letter. */
        boolean freed(Basis basis, int letter) {
            find(basis, none, letter);
            if (!isFoundSmall() || leavesMore(basis)) {
                return false;
            }
            engine.ring.gone = letter;
            boolean isWhole = hasNoMore(basis, letter);
            engine.ring.gone = -1;
            return isWhole && isReady(found);
        }

        /**
         * Whether what has been found leaves more words without the letter than the ideal leaves words at all: some
         * sum of them is in the ideal then, so that there is more to be found, in higher degrees.
         */
        private boolean leavesMore(Basis basis) {
            Ring ring = engine.ring;
            int left = Words.freedom(ring, found) - 1;
            int whole = Words.freedom(ring, basis);
            return left > whole || left == whole && Words.weight(ring, found) > Words.weight(ring, basis);
        }

        /**
         * Tells whether the ideal is 0, or has a common divisor with this letter: then nothing of it is without the
         * letter, and otherwise something is, if there is anything.
         */
        int binding(Basis basis, int letter) {
            Ring ring = engine.ring;
            engine.clean();
            if (basis.count == 0) {
                return BOUND;
            }
            if (Words.freedom(ring, basis) < ring.letters - 1) {
                return NOT_BOUND;
            }
            by.count = 0;
            by.add(basis.at(0), 0, 0);
            if (basis.count > 1) {
                // The first one by all is what it has beside the common divisor; the first one by that is the divisor.
                copy(by, base);
                if (!quotient(base, basis)) {
                    return UNTOLD;
                }
                copy(brought, by);
                if (!quotient(base, by)) {
                    return UNTOLD;
                }
                copy(brought, by);
            }
            Poly divisor = by.at(0);
            engine.clean();
            for (int i = 0; i < divisor.count; i++) {
                if (ring.power(divisor.get(i) >> 3, letter) > 0) {
                    return BOUND;
                }
            }
            return NOT_BOUND;
        }

        /**
         * Makes `found` the basis, up to the degree that is kept, of what two ideals have in common, or what one
         * has without a letter, if this is not -1: words whose rests by the bases depend on those of lesser ones.
         */
        private void find(Basis first, Basis second, int letter) {
            Ring ring = engine.ring;
            engine.clean();
            found.count = 0;
            rows.count = 0;
            for (int degree = 0; degree <= MOST_DEGREE; degree++) {
                for (int middle = 0; middle <= degree; middle++) {
                    for (int low = 0; low <= degree; low++) {
                        long word = (long) degree << 24 | (long) middle << 12 | low;
                        if (ring.isWord(degree, middle, low) && (letter < 0 || ring.power(word, letter) == 0)
                                && found.divisorOf(word) < 0) {
                            made.count = 0;
                            addRest(first, word, TOP * 2);
                            addRest(second, word, TOP);
                            made.append(word << 3 | 1);
                            settle();
                        }
                    }
                }
            }
        }

        /** Appends the rest of a word by a basis, if there is any, lifted. */
        private void addRest(Basis basis, long word, long lift) {
            engine.bucket.empty();
            engine.bucket.addWord(word, basis.count > 0 ? 1 : 0);
            engine.drainBy(basis);
            for (int i = 0; i < engine.out.count; i++) {
                made.append(engine.out.get(i) + (lift << 3));
            }
        }

        /** Takes from `made` what the rows tell already; keeps what is left as a row, or as found if it has no top. */
        private void settle() {
            Bucket bucket = engine.bucket;
            bucket.empty();
            bucket.add(made, 0, 0, 1);
            made.count = 0;
            for (int step = 0; step < MANY; step++) {
                long term = bucket.take();
                if (term == 0) {
                    break;
                }
                int row = made.count == 0 ? rowOf(term >> 3) : -1;
                if (row < 0) {
                    made.append(term);
                } else {
                    bucket.add(rows.at(row), 1, 0, engine.ring.prime - ((int) term & 7));
                }
            }
            made.scale(engine.ring.inverse((int) made.get(0) & 7));
            if (made.head() < TOP) {
                found.add(made, 0, 0);
            } else {
                rows.add(made, 0, 0);
            }
        }

        /** Whether what has been found may be a basis that is kept: not one that is 0, or goes on in higher degrees. */
        private boolean isFoundSmall() {
            return found.count > 0 && found.count <= MOST_POLYNOMIALS && engine.isClosed(found);
        }

        private int rowOf(long word) {
            for (int i = 0; i < rows.count; i++) {
                if (rows.leadAt(i) == word) {
                    return i;
                }
            }
            return -1;
        }

        /** Whether all that the ideal has without the letter that is gone comes of what has been found. */
        private boolean hasNoMore(Basis basis, int letter) {
            engine.clean();
            engine.know(found, 0);
            for (int i = 0; i < basis.count; i++) {
                Poly p = basis.at(i);
                engine.bucket.empty();
                for (int k = 0; k < p.count; k++) {
                    long word = p.get(k) >> 3;
                    engine.bucket.addWord(word + engine.ring.power(word, letter) * TOP, (int) p.get(k) & 7);
                }
                engine.drain();
                engine.queue.add(engine.out, 0, Ring.degree(basis.leadAt(i)));
            }
            engine.isSealed = true;
            return engine.run();
        }

        /** Makes ready the radical of an ideal of words. */
        void flattened(Basis basis) {
            Ring ring = engine.ring;
            engine.clean();
            for (int i = 0; i < basis.count; i++) {
                long lead = basis.leadAt(i);
                long word = ring.word(Math.min(1, ring.power(lead, 0)), Math.min(1, ring.power(lead, 1)),
                        Math.min(1, ring.power(lead, 2)));
                engine.bucket.empty();
                engine.bucket.addWord(word, 1);
                engine.drain();
                engine.queue.add(engine.out, 0, Ring.degree(word));
            }
            engine.run();
        }
    }

    /** What leading words tell: the standard words, counted, and the components of ideals of words. */
    private static final class Words {
        /** One more than any power in a basis: a letter to this power is as good as none. */
        private static final int BEYOND = MOST_DEGREE + 1;

        /** How many standard words of a degree there are. */
        static int free(Ring ring, Basis basis, int degree) {
            int sum = 0;
            for (int x = 0; x <= degree; x++) {
                int most = degree - x;
                for (int y = ring.letters < 3 ? most : 0; y <= most; y++) {
                    if (basis.divisorOf(ring.word(x, y, most - y)) < 0) {
                        sum++;
                    }
                }
            }
            return sum;
        }

        /** The standard word with an index of 0 to 99, by rising words, -1 if there are not so many. */
        static long freeWord(Ring ring, Basis basis, int index) {
            int left = index;
            for (int degree = 0; degree <= index; degree++) {
                for (int middle = 0; middle <= degree; middle++) {
                    for (int low = 0; low <= degree; low++) {
                        long word = (long) degree << 24 | (long) middle << 12 | low;
                        if (ring.isWord(degree, middle, low) && basis.divisorOf(word) < 0) {
                            if (left == 0) {
                                return word;
                            }
                            left--;
                        }
                    }
                }
            }
            return -1;
        }

        /** A number of the series: what stands over 1 less t, to the power of the letters. */
        static long numerator(Ring ring, Basis basis, int power) {
            long sum = 0;
            long sign = 1;
            for (int i = 0; i <= ring.letters && i <= power; i++) {
                sum += sign * choose(ring.letters, i) * free(ring, basis, power - i);
                sign = -sign;
            }
            return sum;
        }

        static int choose(int number, int part) {
            int ways = 1;
            for (int i = 1; i <= part; i++) {
                ways = ways * (number - i + 1) / i;
            }
            return ways;
        }

        /** A value of the polynomial, by the differences of three values that it surely has. */
        static long value(Ring ring, Basis basis, int degree) {
            long first = free(ring, basis, STEADY);
            long second = free(ring, basis, STEADY + 1);
            long third = free(ring, basis, STEADY + 2);
            long step = degree - STEADY;
            return first + step * (second - first) + step * (step - 1) / 2 * (third - 2 * second + first);
        }

        /** The dimension: the greatest number of letters of which all words are standard. */
        static int freedom(Ring ring, Basis basis) {
            int most = -1;
            for (int set = 0; set < 1 << ring.letters; set++) {
                boolean isFree = true;
                for (int i = 0; i < basis.count && isFree; i++) {
                    isFree = (lettersOf(ring, basis.leadAt(i)) & ~set) != 0;
                }
                if (isFree) {
                    most = Math.max(most, Integer.bitCount(set));
                }
            }
            return most;
        }

        static int lettersOf(Ring ring, long word) {
            int set = 0;
            for (int letter = 0; letter < 3; letter++) {
                if (ring.power(word, letter) > 0) {
                    set |= 1 << letter;
                }
            }
            return set;
        }

        static long weight(Ring ring, Basis basis) {
            int dimension = freedom(ring, basis);
            if (dimension < 0) {
                return 0;
            }
            if (dimension == 0) {
                long sum = 0;
                for (int degree = 0; degree <= STEADY; degree++) {
                    sum += free(ring, basis, degree);
                }
                return sum;
            }
            long first = free(ring, basis, STEADY);
            long second = free(ring, basis, STEADY + 1);
            if (dimension == 1) {
                return first;
            }
            return dimension == 2 ? second - first : free(ring, basis, STEADY + 2) - 2 * second + first;
        }

        /** At how many points all polynomials are 0. */
        static int zeros(Ring ring, Basis basis) {
            int sum = 0;
            int depth = ring.letters < 3 ? 1 : ring.prime;
            for (int x = 0; x < ring.prime; x++) {
                for (int y = 0; y < ring.prime; y++) {
                    for (int z = 0; z < depth; z++) {
                        if (isZero(ring, basis, x, y, z)) {
                            sum++;
                        }
                    }
                }
            }
            return sum;
        }

        private static boolean isZero(Ring ring, Basis basis, int x, int y, int z) {
            for (int i = 0; i < basis.count; i++) {
                Poly p = basis.at(i);
                int sum = 0;
                for (int k = 0; k < p.count; k++) {
                    long word = p.get(k) >> 3;
                    int value = (int) p.get(k) & 7;
                    value = raised(ring, value, x, ring.power(word, 0));
                    value = raised(ring, value, y, ring.power(word, 1));
                    sum += raised(ring, value, z, ring.power(word, 2));
                }
                if (ring.mod(sum) != 0) {
                    return false;
                }
            }
            return true;
        }

        private static int raised(Ring ring, int start, int number, int power) {
            int value = start;
            for (int i = 0; i < power; i++) {
                value = ring.mod(value * number);
            }
            return value;
        }

        // Components: each is a code of three powers, 0 for a letter of which there is none.

        static int power(int code, int letter) {
            return letter == 0 ? code >> 6 : letter == 1 ? code >> 3 & 7 : code & 7;
        }

        static int number(Ring ring, Basis basis) {
            int number = 0;
            for (int code = 0; code < 512; code++) {
                if (isPiece(ring, basis, code)) {
                    number++;
                }
            }
            return number;
        }

        /** The component with an index, -1 if there are not so many. */
        static int codeAt(Ring ring, Basis basis, int index) {
            int left = index;
            for (int code = 0; code < 512 && left >= 0; code++) {
                if (isPiece(ring, basis, code)) {
                    if (left == 0) {
                        return code;
                    }
                    left--;
                }
            }
            return -1;
        }

        /** The sets of letters of the components, as a sum of 2 to the power of each. */
        static int letterSets(Ring ring, Basis basis) {
            int sets = 0;
            for (int code = 0; code < 512; code++) {
                if (isPiece(ring, basis, code)) {
                    int x = code >> 6 > 0 ? 1 : 0;
                    int y = (code >> 3 & 7) > 0 ? 2 : 0;
                    int z = (code & 7) > 0 ? 4 : 0;
                    sets |= 1 << (x + y + z);
                }
            }
            return sets;
        }

        /** The place of a bit that is set, by an index, -1 if there are not so many. */
        static int bitAt(int bits, int index) {
            int left = index;
            for (int bit = 0; bit < 8 && left >= 0; bit++) {
                if ((bits >> bit & 1) != 0) {
                    if (left == 0) {
                        return bit;
                    }
                    left--;
                }
            }
            return -1;
        }

        /**
         * Whether powers of letters generate a component: the ideal is within what they generate, and is no more
         * if one of them is raised by 1; so nothing between the two is like it, and it can't be left out.
         */
        private static boolean isPiece(Ring ring, Basis basis, int code) {
            int x = code >> 6;
            int y = code >> 3 & 7;
            int z = code & 7;
            if (x == BEYOND || y == BEYOND || z == BEYOND || ring.letters < 3 && z > 0) {
                return false;
            }
            return isAround(ring, basis, x, y, z)
                    && (x == 0 || !isAround(ring, basis, x + 1, y, z))
                    && (y == 0 || !isAround(ring, basis, x, y + 1, z))
                    && (z == 0 || !isAround(ring, basis, x, y, z + 1));
        }

        private static boolean isAround(Ring ring, Basis basis, int x, int y, int z) {
            for (int i = 0; i < basis.count; i++) {
                if (!isIn(ring, basis.leadAt(i), x, y, z)) {
                    return false;
                }
            }
            return true;
        }

        private static boolean isIn(Ring ring, long word, int x, int y, int z) {
            return x > 0 && ring.power(word, 0) >= x || y > 0 && ring.power(word, 1) >= y
                    || z > 0 && ring.power(word, 2) >= z;
        }

        /**
         * Whether the ideal is what its components have in common: each of them is around it, as isPiece asks, and
         * each word that is not in it is not in one of them, that beyond which its powers can't be raised.
         */
        static boolean meetIn(Ring ring, Basis basis) {
            for (int x = 0; x < BEYOND; x++) {
                for (int y = 0; y < BEYOND; y++) {
                    for (int z = 0; z < BEYOND; z++) {
                        boolean isOut = basis.divisorOf(ring.word(x, y, z)) < 0;
                        if (isOut && !isPiece(ring, basis, beyond(ring, basis, x, y, z))) {
                            return false;
                        }
                    }
                }
            }
            return true;
        }

        private static int beyond(Ring ring, Basis basis, int x, int y, int z) {
            int a = x;
            int b = y;
            int c = z;
            while (a < BEYOND && basis.divisorOf(ring.word(a + 1, b, c)) < 0) {
                a++;
            }
            while (b < BEYOND && basis.divisorOf(ring.word(a, b + 1, c)) < 0) {
                b++;
            }
            while (c < BEYOND && basis.divisorOf(ring.word(a, b, c + 1)) < 0) {
                c++;
            }
            return (a + 1) % (BEYOND + 1) << 6 | (b + 1) % (BEYOND + 1) << 3 | (c + 1) % (BEYOND + 1);
        }
    }

    /** Numbers modulo a prime in rows and columns, used again for each rank that is asked for. */
    private static final class Matrix {
        final Ring ring;
        int[] cell = new int[256];
        int rows;
        int columns;

        Matrix(Ring ring) {
            this.ring = ring;
        }

        /** Begins with zeros. */
        void open(int rowNumber, int columnNumber) {
            int cells = Math.max(0, rowNumber) * Math.max(0, columnNumber);
            rows = 0;
            columns = 0;
            if (cells > cell.length) {
                int wish = Math.max(cells, 2 * cell.length);
                if (!ring.allots(wish)) {
                    return;
                }
                cell = new int[wish];
            }
            rows = Math.max(0, rowNumber);
            columns = Math.max(0, columnNumber);
            Arrays.fill(cell, 0, Math.min(cells, cell.length), 0);
        }

        void set(int row, int column, int number) {
            int place = row * columns + column;
            if (row >= 0 && row < rows && column >= 0 && column < columns && place < cell.length) {
                cell[place] = number;
            }
        }

        int get(int row, int column) {
            int place = row * columns + column;
            return row >= 0 && row < rows && column >= 0 && column < columns && place < cell.length ? cell[place] : 0;
        }

        int rank(int prime) {
            int rank = 0;
            for (int column = 0; column < columns && rank < rows; column++) {
                int row = rank;
                while (row < rows && get(row, column) == 0) {
                    row++;
                }
                if (row < rows) {
                    swap(rank, row, column);
                    for (int below = row + 1; below < rows; below++) {
                        clearBelow(rank, below, column, prime);
                    }
                    rank++;
                }
            }
            return rank;
        }

        private void swap(int one, int other, int from) {
            for (int column = from; column < columns && one != other; column++) {
                int number = get(one, column);
                set(one, column, get(other, column));
                set(other, column, number);
            }
        }

        /** Takes so much of one row from another one, crosswise, that the column there is 0. */
        private void clearBelow(int pivot, int row, int from, int prime) {
            int head = get(pivot, from);
            int less = get(row, from);
            if (less == 0 || prime < 2) {
                return;
            }
            for (int column = from; column < columns; column++) {
                int number = head * get(row, column) + (prime - less) * get(pivot, column);
                set(row, column, number % prime);
            }
        }
    }

    /** Makes the tables of graded ideals. */
    private static final class Tables {
        private static final int MOST_WORDS = 200;
        final Engine engine;
        final Matrix matrix;
        final long[] source = new long[MOST_WORDS];
        final long[] target = new long[MOST_WORDS];
        final int[][] numbers = new int[MOST_IDEALS][4 * (LAST_J + 1)];
        final boolean[] isFilled = new boolean[MOST_IDEALS];
        int sources;
        int targets;

        Tables(Engine engine, Matrix matrix) {
            this.engine = engine;
            this.matrix = matrix;
        }

        void forget(int ideal) {
            if (ideal >= 0 && ideal < isFilled.length) {
                isFilled[ideal] = false;
            }
        }

        /**
         * Fills the table of an ideal, if that has not been done, and returns the ideal. Beyond the degree of the
         * least common multiple of all leading words each number is 0.
         */
        int fill(int ideal, Basis basis) {
            if (ideal < 0 || ideal >= isFilled.length || ideal >= numbers.length || isFilled[ideal]) {
                return ideal;
            }
            Ring ring = engine.ring;
            long all = 0;
            for (int i = 0; i < basis.count; i++) {
                all = ring.common(all, basis.leadAt(i));
            }
            int[] row = numbers[ideal];
            Arrays.fill(row, 0);
            engine.clean();
            for (int j = 0; j <= LAST_J && j <= Ring.degree(all); j++) {
                int image = 0;
                for (int i = Math.min(j, ring.letters); i >= 0; i--) {
                    int here = Words.choose(ring.letters, i) * Words.free(ring, basis, j - i);
                    int onward = i == 0 ? 0 : rank(basis, i, j);
                    int place = i * (LAST_J + 1) + j;
                    if (place < row.length) {
                        row[place] = here - onward - image;
                    }
                    image = onward;
                }
            }
            isFilled[ideal] = true;
            return ideal;
        }

        int numberAt(int ideal, int i, int j) {
            int place = i * (LAST_J + 1) + j;
            boolean isThere = ideal >= 0 && ideal < numbers.length && i >= 0 && j >= 0 && j <= LAST_J;
            return isThere && place < numbers[ideal].length ? numbers[ideal][place] : 0;
        }

        /** The greatest i with a number other than 0, -1 if there is none. */
        int lastPlace(int ideal) {
            int last = -1;
            for (int i = 0; i <= engine.ring.letters; i++) {
                for (int j = 0; j <= LAST_J; j++) {
                    if (numberAt(ideal, i, j) != 0) {
                        last = i;
                    }
                }
            }
            return last;
        }

        /** The greatest j - i with a number other than 0, -1 if there is none. */
        int lastShift(int ideal) {
            int last = -1;
            for (int i = 0; i <= engine.ring.letters; i++) {
                for (int j = i; j <= LAST_J; j++) {
                    if (numberAt(ideal, i, j) != 0) {
                        last = Math.max(last, j - i);
                    }
                }
            }
            return last;
        }

        /** The rank of the map from the place i to the place i - 1. */
        private int rank(Basis basis, int i, int j) {
            Ring ring = engine.ring;
            sources = list(basis, j - i, source);
            targets = list(basis, j - i + 1, target);
            matrix.open(Words.choose(ring.letters, i) * sources, Words.choose(ring.letters, i - 1) * targets);
            for (int k = 0; k < sources && k < source.length; k++) {
                for (int letter = 0; letter < ring.letters; letter++) {
                    int x = letter == 0 ? 1 : 0;
                    int y = letter == 1 ? 1 : 0;
                    engine.bucket.empty();
                    engine.bucket.addWord(source[k] + ring.word(x, y, 1 - x - y), 1);
                    engine.drainBy(basis);
                    enter(i, k, letter);
                }
            }
            return matrix.rank(ring.prime);
        }

        private int list(Basis basis, int degree, long[] words) {
            int number = 0;
            for (int middle = 0; middle <= degree; middle++) {
                for (int low = 0; low <= degree; low++) {
                    long word = (long) degree << 24 | (long) middle << 12 | low;
                    if (engine.ring.isWord(degree, middle, low) && number < words.length
                            && basis.divisorOf(word) < 0) {
                        words[number] = word;
                        number++;
                    }
                }
            }
            return number;
        }

        /** Enters what comes of a letter times a word, for all sets of i letters with this one. */
        private void enter(int i, int word, int letter) {
            int prime = engine.ring.prime;
            for (int set = 0; set < 1 << engine.ring.letters; set++) {
                if (Integer.bitCount(set) != i || (set >> letter & 1) == 0) {
                    continue;
                }
                boolean isMinus = Integer.bitCount(set & (1 << letter) - 1) % 2 == 1;
                int row = placeOf(set) * sources + word;
                int block = placeOf(set & ~(1 << letter)) * targets;
                for (int k = 0; k < engine.out.count; k++) {
                    int number = (int) engine.out.get(k) & 7;
                    int column = targetOf(engine.out.get(k) >> 3);
                    if (column >= 0) {
                        matrix.set(row, block + column, isMinus ? prime - number : number);
                    }
                }
            }
        }

        /** The place of a set among those of as many letters. */
        private static int placeOf(int set) {
            int place = 0;
            for (int other = 0; other < set; other++) {
                if (Integer.bitCount(other) == Integer.bitCount(set)) {
                    place++;
                }
            }
            return place;
        }

        private int targetOf(long word) {
            for (int i = 0; i < targets && i < target.length; i++) {
                if (target[i] == word) {
                    return i;
                }
            }
            return -1;
        }

        /** Whether the table, by signs, tells the series. */
        boolean tellSeries(int ideal, Basis basis) {
            fill(ideal, basis);
            for (int j = 0; j <= LAST_J; j++) {
                long sum = 0;
                for (int i = 0; i <= engine.ring.letters; i++) {
                    sum += i % 2 == 0 ? numberAt(ideal, i, j) : -numberAt(ideal, i, j);
                }
                if (sum != Words.numerator(engine.ring, basis, j)) {
                    return false;
                }
            }
            return true;
        }
    }

    /** A set of faces: a bit for each set of points, that is the sum of 2 to the power of each. */
    private static final class Faces {
        static final int MOST_SHELLED = 8;
        private static final int SETS = 1 << POINTS;
        final Matrix matrix;
        final int[] facets = new int[MOST_SHELLED];
        final boolean[] canStand = new boolean[1 << MOST_SHELLED];
        long sets;

        Faces(Matrix matrix) {
            this.matrix = matrix;
        }

        boolean isFace(int set) {
            return set >= 0 && set < SETS && (sets >> set & 1) != 0;
        }

        void include(int points) {
            for (int set = 0; set < SETS; set++) {
                if ((set & ~points) == 0) {
                    sets |= 1L << set;
                }
            }
        }

        int countOf(int points) {
            int number = 0;
            for (int set = 0; set < SETS; set++) {
                if (isFace(set) && Integer.bitCount(set) == points) {
                    number++;
                }
            }
            return number;
        }

        private boolean isFacet(int set) {
            if (!isFace(set)) {
                return false;
            }
            for (int point = 0; point < POINTS; point++) {
                if ((set >> point & 1) == 0 && isFace(set | 1 << point)) {
                    return false;
                }
            }
            return true;
        }

        int facetCount() {
            int number = 0;
            for (int set = 0; set < SETS; set++) {
                if (isFacet(set)) {
                    number++;
                }
            }
            return number;
        }

        /** The facet with an index, -1 if there are not so many. */
        int facet(int index) {
            int left = index;
            for (int set = 0; set < SETS && left >= 0; set++) {
                if (isFacet(set)) {
                    if (left == 0) {
                        return set;
                    }
                    left--;
                }
            }
            return -1;
        }

        /** The rank of the map from the faces of so many points to those of one less. */
        int rank(int points, int prime) {
            if (points < 1 || points > POINTS) {
                return 0;
            }
            matrix.open(countOf(points), countOf(points - 1));
            for (int set = 0; set < SETS; set++) {
                if (isFace(set) && Integer.bitCount(set) == points) {
                    int sign = 1;
                    for (int point = 0; point < POINTS; point++) {
                        if ((set >> point & 1) != 0) {
                            matrix.set(placeOf(set), placeOf(set & ~(1 << point)), sign);
                            sign = prime - sign;
                        }
                    }
                }
            }
            return matrix.rank(prime);
        }

        /** The place of a face among those of as many points. */
        private int placeOf(int set) {
            int place = 0;
            for (int other = 0; other < set; other++) {
                if (isFace(other) && Integer.bitCount(other) == Integer.bitCount(set)) {
                    place++;
                }
            }
            return place;
        }

        void turn() {
            long turned = 0;
            for (int set = 0; set < SETS; set++) {
                if (!isFace(SETS - 1 - set)) {
                    turned |= 1L << set;
                }
            }
            sets = turned;
        }

        /** Whether the facets, at most 8, can be put in a row as a shelling asks: for all sets that may stand ahead. */
        boolean hasRow() {
            int number = Math.min(facetCount(), MOST_SHELLED);
            for (int i = 0; i < number && i < facets.length; i++) {
                facets[i] = facet(i);
                if (Integer.bitCount(facets[i]) != Integer.bitCount(facets[0])) {
                    return false;
                }
            }
            for (int ahead = 0; ahead < canStand.length; ahead++) {
                canStand[ahead] = ahead == 0;
            }
            for (int ahead = 0; ahead < 1 << number; ahead++) {
                for (int next = 0; next < number && ahead < canStand.length && canStand[ahead]; next++) {
                    int with = ahead | 1 << next;
                    if (with != ahead && with < canStand.length && mayFollow(ahead, next, number)) {
                        canStand[with] = true;
                    }
                }
            }
            int all = (1 << number) - 1;
            return all < canStand.length && canStand[all];
        }

        /** Whether each face that a facet shares with those ahead is within a shared one of one dimension less. */
        private boolean mayFollow(int ahead, int next, int number) {
            if (next < 0 || next >= facets.length || number > facets.length) {
                return false;
            }
            int facet = facets[next];
            for (int i = 0; i < number; i++) {
                if ((ahead >> i & 1) == 0) {
                    continue;
                }
                int shared = facet & facets[i];
                boolean isCovered = false;
                for (int k = 0; k < number && !isCovered; k++) {
                    int other = facet & facets[k];
                    isCovered = (ahead >> k & 1) != 0 && (shared & ~other) == 0
                            && Integer.bitCount(other) == Integer.bitCount(facet) - 1;
                }
                if (!isCovered) {
                    return false;
                }
            }
            return true;
        }
    }
}
