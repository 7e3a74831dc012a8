import java.lang.management.ManagementFactory;
import java.util.Random;

/**
 * What runs of 512 calls take of the room that all calls of a run live in: some 600,000 objects and arrays, 7.3 million
 * fields and elements. So many of 16 bytes and 8 bytes each are the bytes that are allowed here; the most that a run took is told.
 */
public final class RoomTest {
    private static final long MOST = 600_000 * 16L + 7_300_000 * 8L;
    private static final int[] PRIMES = {2, 3, 5, 7};
    private static final char[] KINDS = {'*', '&', ':', '~', '+'};

    private static long most;

    public static void main(String[] arguments) {
        run(0);
        for (int i = 0; i < 40; i++) {
            int run = i;
            Calls.test("run " + run, () -> {
                long bytes = run(run);
                most = Math.max(most, bytes);
                Calls.due(bytes <= MOST ? "at most " + MOST : "" + bytes, "at most " + MOST);
            });
        }
        Calls.test("one call again and again", () -> {
            for (String name : new String[] {"isSound", "canBeShelled", "holes", "ways", "table", "inRadical", "meet", "free"}) {
                long bytes = again(name);
                most = Math.max(most, bytes);
                Calls.due(name, bytes <= MOST ? "at most " + MOST : "" + bytes, "at most " + MOST);
            }
        });
        System.out.println("at most " + most + " bytes a run");
        Calls.end();
    }

    private static long bytes() {
        return ((com.sun.management.ThreadMXBean) ManagementFactory.getThreadMXBean())
            .getThreadAllocatedBytes(Thread.currentThread().getId());
    }

    /** Makes ideals of dense polynomials and joins them, in a new ring whenever there are some. */
    private static long run(int run) {
        Random random = new Random(run);
        long before = bytes();
        Renewed s = new Renewed();
        int prime = PRIMES[run % 4];
        int letters = run % 3 == 0 ? 2 : 3;
        for (int step = 0; s.left() > 30; step++) {
            if (step % 9 == 0) {
                s.begin(prime, letters, run % 2 == 0 ? 'g' : 'd');
            }
            if (step % 9 < 3 || s.ideals() == 0) {
                dense(s, random, prime, letters);
            } else {
                made(s, random, letters);
            }
        }
        s.isSound();
        return bytes() - before;
    }

    private static void dense(Renewed s, Random random, int prime, int letters) {
        s.dropList();
        int polynomials = 1 + random.nextInt(3);
        for (int i = 0; i < polynomials; i++) {
            int words = 1 + random.nextInt(6);
            for (int k = 0; k < words; k++) {
                int x = random.nextInt(5);
                int y = random.nextInt(5 - x);
                s.term(1 + random.nextInt(prime - 1), x, y, letters == 2 ? 0 : random.nextInt(5 - x - y));
            }
            Calls.of(s::push);
        }
        Calls.of(s::ideal);
    }

    private static void made(Renewed s, Random random, int letters) {
        int one = random.nextInt(s.ideals());
        int other = random.nextInt(s.ideals());
        if (random.nextInt(4) == 0) {
            Calls.of(() -> s.without(one, random.nextInt(letters)));
        } else {
            Calls.of(() -> s.join(KINDS[random.nextInt(KINDS.length)], one, other));
        }
        Calls.of(() -> s.regularity(one));
    }

    private static long again(String name) {
        Renewed s = Calls.ring(7, 3, 'g');
        int twelve = Calls.twelveWords(s);
        Calls.ideal(s, "1 400, 1 130, 3 011, 2 000; 1 040, 3 103, 5 100, 1 000; 1 004, 2 111, 6 010");
        Calls.ideal(s, "1 200, -1 011; 1 110, -1 002");
        Calls.poly(s, "1 100, 2 010, 3 001");
        for (int i = 0; i < 20; i++) {
            s.put(7 << i % 4 | 1 << i % 6);
        }
        long before = bytes();
        for (int i = 0; s.left() > 3; i++) {
            int ideal = i % s.ideals();
            switch (name) {
                case "isSound": s.isSound(); break;
                case "canBeShelled": Calls.of(s::canBeShelled); break;
                case "holes": s.holes(i % 7 - 1); s.dual(); break;
                case "ways": s.ways(1000 - i, 999, 997, 1000000); break;
                case "table": Calls.of(() -> s.table(ideal, 1, 2)); break;
                case "inRadical": s.inRadical(ideal); break;
                case "meet": Calls.of(() -> s.join('&', twelve, ideal)); break;
                default: Calls.of(() -> s.without(ideal, 0)); break;
            }
        }
        return bytes() - before;
    }
}
