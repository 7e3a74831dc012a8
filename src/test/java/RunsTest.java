import java.io.IOException;
import java.nio.file.Files;
import java.nio.file.Path;
import java.util.List;
import java.util.NoSuchElementException;
import java.util.TreeSet;

/**
 * Runs of calls whose answers were told by another program (the computer algebra system Singular, and plain counting
 * of words), from src/test/data/runs.txt: a line a call, behind '=' what is due. An ideal is told by its number
 * modulo how many there are.
 */
public final class RunsTest {
    private static Renewed s = new Renewed();

    public static void main(String[] arguments) throws IOException {
        List<String> lines = Files.readAllLines(Path.of("src/test/data/runs.txt"));
        int wrong = 0;
        for (int i = 0; i < lines.size(); i++) {
            String[] parts = lines.get(i).split(" = ?", 2);
            String got = answer(parts[0].trim().split(" ")).trim();
            if (!got.equals(parts[1].trim())) {
                wrong++;
                System.out.println(wrong > 20 ? "and so on"
                    : "line " + (i + 1) + ": " + parts[0] + " answered " + got + ", due is " + parts[1]);
            }
        }
        System.out.println(lines.size() + " calls of runs, " + wrong + " wrong");
        if (wrong != 0 || lines.isEmpty()) {
            System.exit(1);
        }
    }

    private static String answer(String[] call) {
        if (s.ideals() == 0 && "join without radical inrad has rest within table counts comps".contains(call[0])) {
            return "none";
        }
        try {
            return of(call);
        } catch (UnsupportedOperationException e) {
            return "UOE";
        } catch (IllegalStateException e) {
            return "ISE";
        }
    }

    private static String of(String[] call) {
        switch (call[0]) {
            case "begin":
                s = new Renewed();
                return "" + s.begin(number(call[1]), number(call[2]), call[3].charAt(0));
            case "term":
                return "" + s.term(number(call[1]), number(call[2]), number(call[3]), number(call[4]));
            case "push":
                return "" + s.push();
            case "wipe":
                return "" + s.wipe();
            case "ideal":
                return generated();
            case "join":
                return basis(s.join(call[1].charAt(0), ideal(call[2]), ideal(call[3])));
            case "without":
                return basis(s.without(ideal(call[1]), number(call[2])));
            case "radical":
                return basis(s.radical(ideal(call[1])));
            case "inrad":
                return "" + s.inRadical(ideal(call[1]));
            case "has":
                return "" + s.has(ideal(call[1]));
            case "rest":
                return "" + s.rest(ideal(call[1]));
            case "within":
                return "" + s.isWithin(ideal(call[1]), ideal(call[2]));
            case "table":
                return table(ideal(call[1]), number(call[2]));
            case "counts":
                return counts(ideal(call[1]));
            case "comps":
                return components(ideal(call[1]), number(call[2]));
            case "sound":
                return "" + s.isSound();
            default:
                return "?";
        }
    }

    private static int number(String text) {
        return Integer.parseInt(text);
    }

    private static int ideal(String text) {
        return number(text) % s.ideals();
    }

    private static String generated() {
        try {
            return basis(s.ideal());
        } finally {
            s.dropList();
        }
    }

    private static String basis(int ideal) {
        StringBuilder b = new StringBuilder();
        for (int i = 0; i < s.size(ideal); i++) {
            TreeSet<String> terms = new TreeSet<>();
            for (int code = 0; code < 343; code++) {
                int x = code / 49;
                int y = code / 7 % 7;
                int z = code % 7;
                int number = s.numberOf(ideal, i, x, y, z);
                if (number != 0) {
                    terms.add(number + "." + x + y + z);
                }
            }
            b.append(terms.size() == s.words(ideal, i) ? "" : "not all words ");
            b.append(s.lead(ideal, i, 0)).append(s.lead(ideal, i, 1));
            b.append('[').append(String.join(" ", terms)).append("] ");
        }
        return b.toString();
    }

    private static String table(int ideal, int letters) {
        StringBuilder b = new StringBuilder();
        for (int i = 0; i <= letters; i++) {
            for (int j = 0; j <= 18; j++) {
                int number = s.table(ideal, i, j);
                b.append(number == 0 ? "" : i + "," + j + "=" + number + " ");
            }
        }
        return b + "len " + s.length(ideal) + " reg " + s.regularity(ideal) + " depth " + s.depth(ideal);
    }

    private static String counts(int ideal) {
        StringBuilder b = new StringBuilder();
        for (int degree = 0; degree <= 40; degree += 3) {
            b.append(s.standard(ideal, degree)).append(' ');
        }
        b.append("| ");
        for (int power = 0; power <= 20; power++) {
            b.append(s.series(ideal, power)).append(' ');
        }
        b.append("| ").append(s.polynomial(ideal, 0)).append(' ').append(s.polynomial(ideal, 7)).append(' ');
        b.append(s.polynomial(ideal, 1000000)).append(" | ").append(s.dimension(ideal)).append(' ');
        b.append(s.multiplicity(ideal)).append(' ').append(s.roots(ideal)).append(" | ");
        b.append(s.isGraded(ideal)).append(' ').append(s.isOfWords(ideal)).append(" |");
        for (int index : new int[] {0, 1, 2, 5, 11, 40, 99}) {
            try {
                b.append(" " + s.standardAt(ideal, index, 0) + "," + s.standardAt(ideal, index, 1));
            } catch (NoSuchElementException e) {
                b.append(" -");
            }
        }
        return b.toString();
    }

    private static String components(int ideal, int letters) {
        StringBuilder b = new StringBuilder(s.components(ideal) + ":");
        for (int i = 0; i < s.components(ideal); i++) {
            for (int letter = 0; letter < letters; letter++) {
                b.append(s.componentAt(ideal, i, letter));
            }
            b.append(' ');
        }
        b.append("| ");
        for (int i = 0; i < s.primes(ideal); i++) {
            b.append(s.primeAt(ideal, i)).append(' ');
        }
        return b.toString();
    }
}
