import java.util.ArrayList;
import java.util.List;
import java.util.function.ToIntFunction;

/**
 * A Syzygium for any number of calls. "An object is used for at most 512 calls after it has been made; what later calls
 * answer is free": before these are used up another object is made, and brought to where the first one was by the calls
 * that changed it.
 */
public final class Renewed {
    private static final int MOST = 512;

    /** The calls that made what there is: the ring and its ideals, the list, the polynomial, the faces. */
    private final List<ToIntFunction<Syzygium>> ofRing = new ArrayList<>();
    private final List<ToIntFunction<Syzygium>> ofList = new ArrayList<>();
    private final List<ToIntFunction<Syzygium>> ofPolynomial = new ArrayList<>();
    private final List<ToIntFunction<Syzygium>> ofFaces = new ArrayList<>();
    private Syzygium s = new Syzygium();
    private int calls;
    private int renewals;

    /** How often another object was made: a test of what one object does has to do without. */
    public int renewals() {
        return renewals;
    }

    /** How many calls the object may still be used for. */
    public int left() {
        return MOST - calls;
    }

    /** The object, with one call at least that it may still be used for. */
    private Syzygium ready() {
        if (calls == MOST) {
            s = new Syzygium();
            renewals++;
            calls = 0;
            for (List<ToIntFunction<Syzygium>> made : List.of(ofRing, ofList, ofPolynomial, ofFaces)) {
                made.forEach(call -> call.applyAsInt(s));
                calls += made.size();
            }
            if (calls >= MOST) {
                throw new AssertionError("too many changes for one object: " + calls);
            }
        }
        calls++;
        return s;
    }

    /** Makes a call that changes something; one that throws changes nothing. */
    private int changed(List<ToIntFunction<Syzygium>> made, ToIntFunction<Syzygium> call) {
        int answer = call.applyAsInt(ready());
        made.add(call);
        return answer;
    }

    // The face

    public int begin(int prime, int letters, char order) {
        int before = ready().begin(prime, letters, order);
        ofRing.clear();
        ofList.clear();
        ofPolynomial.clear();
        ofRing.add(o -> o.begin(prime, letters, order));
        return before;
    }

    public int term(int number, int x, int y, int z) {
        return changed(ofPolynomial, o -> o.term(number, x, y, z));
    }

    public int wipe() {
        int before = ready().wipe();
        ofPolynomial.clear();
        return before;
    }

    public int push() {
        int number = ready().push();
        ofList.addAll(ofPolynomial);
        ofList.add(o -> o.push());
        ofPolynomial.clear();
        return number;
    }

    public int dropList() {
        int before = ready().dropList();
        ofList.clear();
        return before;
    }

    public int ideal() {
        int number = ready().ideal();
        ofRing.addAll(ofList);
        ofRing.add(o -> o.ideal());
        ofList.clear();
        return number;
    }

    public int ideals() {
        return ready().ideals();
    }

    public int size(int ideal) {
        return ready().size(ideal);
    }

    public int lead(int ideal, int place, int letter) {
        return ready().lead(ideal, place, letter);
    }

    public int words(int ideal, int place) {
        return ready().words(ideal, place);
    }

    public int numberOf(int ideal, int place, int x, int y, int z) {
        return ready().numberOf(ideal, place, x, y, z);
    }

    public boolean has(int ideal) {
        return ready().has(ideal);
    }

    public int rest(int ideal) {
        return changed(ofPolynomial, o -> o.rest(ideal));
    }

    public boolean inRadical(int ideal) {
        return ready().inRadical(ideal);
    }

    public boolean isSame(int ideal, int other) {
        return ready().isSame(ideal, other);
    }

    public boolean isWithin(int ideal, int other) {
        return ready().isWithin(ideal, other);
    }

    public int join(char kind, int ideal, int other) {
        return changed(ofRing, o -> o.join(kind, ideal, other));
    }

    public int without(int ideal, int letter) {
        return changed(ofRing, o -> o.without(ideal, letter));
    }

    public boolean isGraded(int ideal) {
        return ready().isGraded(ideal);
    }

    public int standard(int ideal, int degree) {
        return ready().standard(ideal, degree);
    }

    public int standardAt(int ideal, int index, int letter) {
        return ready().standardAt(ideal, index, letter);
    }

    public long series(int ideal, int power) {
        return ready().series(ideal, power);
    }

    public long polynomial(int ideal, int degree) {
        return ready().polynomial(ideal, degree);
    }

    public int dimension(int ideal) {
        return ready().dimension(ideal);
    }

    public long multiplicity(int ideal) {
        return ready().multiplicity(ideal);
    }

    public int roots(int ideal) {
        return ready().roots(ideal);
    }

    public int table(int ideal, int i, int j) {
        return ready().table(ideal, i, j);
    }

    public int length(int ideal) {
        return ready().length(ideal);
    }

    public int regularity(int ideal) {
        return ready().regularity(ideal);
    }

    public int depth(int ideal) {
        return ready().depth(ideal);
    }

    public boolean isOfWords(int ideal) {
        return ready().isOfWords(ideal);
    }

    public int components(int ideal) {
        return ready().components(ideal);
    }

    public int componentAt(int ideal, int index, int letter) {
        return ready().componentAt(ideal, index, letter);
    }

    public int primes(int ideal) {
        return ready().primes(ideal);
    }

    public int primeAt(int ideal, int index) {
        return ready().primeAt(ideal, index);
    }

    public int radical(int ideal) {
        return changed(ofRing, o -> o.radical(ideal));
    }

    public int put(int points) {
        return changed(ofFaces, o -> o.put(points));
    }

    public int clear() {
        int before = ready().clear();
        ofFaces.clear();
        return before;
    }

    public int faces(int dimension) {
        return ready().faces(dimension);
    }

    public int facetAt(int index) {
        return ready().facetAt(index);
    }

    public int holes(int dimension) {
        return ready().holes(dimension);
    }

    public int dual() {
        return changed(ofFaces, o -> o.dual());
    }

    public boolean canBeShelled() {
        return ready().canBeShelled();
    }

    public long ways(int one, int two, int three, int sum) {
        return ready().ways(one, two, three, sum);
    }

    public float gradedShare() {
        return ready().gradedShare();
    }

    public double meanSize() {
        return ready().meanSize();
    }

    public long checksum() {
        return ready().checksum();
    }

    public boolean isSound() {
        return ready().isSound();
    }
}
