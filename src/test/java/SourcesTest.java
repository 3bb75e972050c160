import java.util.NoSuchElementException;

/** Promises 31 to 34: isles and the sources that tell of them. */
public final class SourcesTest {
    private static final Class<IndexOutOfBoundsException> INDEX = IndexOutOfBoundsException.class;
    private static final Class<IllegalArgumentException> ARGUMENT = IllegalArgumentException.class;
    private static final Class<NoSuchElementException> NONE = NoSuchElementException.class;
    private static final Class<IllegalStateException> STATE = IllegalStateException.class;
    private static final Checks check = new Checks();

    public static void main(String[] args) {
        isle();
        source();
        sourcesEnd();
        agreeingAndBest();
        roundTheBeginning();
        bestIsTheLeast();
        check.end();
    }

    private static void isle() {
        Globewright w = new Globewright();
        for (int i = 0; i < 6; i++) {
            check.equal(w.isle(), i);
        }
        check.fails(STATE, () -> w.isle());
        check.equal(w.source(5, 0, 0), 1);
        check.fails(INDEX, () -> w.source(6, 0, 0));
    }

    private static void source() {
        Globewright w = new Globewright();
        check.fails(INDEX, () -> w.source(0, 0, 0));
        check.fails(INDEX, () -> w.agreeing(0));
        check.fails(INDEX, () -> w.best(0));
        w.isle();
        w.isle();
        for (int wrong : Checks.NO_NUMBERS) {
            check.fails(INDEX, () -> w.source(wrong, -1, 0));
            check.fails(INDEX, () -> w.agreeing(wrong));
            check.fails(INDEX, () -> w.best(wrong));
        }
        check.fails(INDEX, () -> w.source(2, 0, 0));
        check.fails(INDEX, () -> w.agreeing(2));
        check.fails(INDEX, () -> w.best(2));
        for (int wrong : new int[] {-1, 3600, Integer.MIN_VALUE, Integer.MAX_VALUE}) {
            check.fails(ARGUMENT, () -> w.source(0, wrong, 0));
        }
        for (int wrong : new int[] {-1, 901, Integer.MIN_VALUE, Integer.MAX_VALUE}) {
            check.fails(ARGUMENT, () -> w.source(0, 0, wrong));
        }
        check.equal(w.source(0, 0, 0), 1);
        check.equal(w.source(0, 3599, 900), 2);
        check.equal(w.source(1, 0, 0), 1);
        check.equal(w.source(0, 0, 0), 3);
    }

    private static void sourcesEnd() {
        Globewright w = new Globewright();
        w.isle();
        w.isle();
        for (int i = 0; i < 15; i++) {
            check.equal(w.source(0, i, 900), i + 1);
            check.equal(w.source(1, i, 0), i + 1);
        }
        check.fails(STATE, () -> w.source(0, 0, 0));
        check.fails(STATE, () -> w.source(1, 0, 0));
        check.fails(ARGUMENT, () -> w.source(1, 3600, 0));
        check.fails(INDEX, () -> w.source(2, 0, 0));
        check.equal(w.agreeing(0), 15);
        check.equal(w.best(0), 0);
        check.equal(w.agreeing(1), 1);
        check.equal(w.best(1), 0);
    }

    private static void agreeingAndBest() {
        Globewright w = new Globewright();
        w.isle();
        w.isle();
        check.equal(w.agreeing(0), 0);
        check.fails(NONE, () -> w.best(0));
        w.source(0, 500, 20);
        check.equal(w.agreeing(0), 1);
        check.equal(w.best(0), 480);
        check.equal(w.agreeing(1), 0);
        check.fails(NONE, () -> w.best(1));
        w.source(1, 490, 0);
        w.source(0, 530, 10);
        check.equal(w.agreeing(0), 2);
        check.equal(w.best(0), 520);
        w.source(0, 531, 10);
        check.equal(w.agreeing(0), 2);
        check.equal(w.best(0), 520);
        w.source(0, 1500, 960 - 60);
        check.equal(w.agreeing(0), 2);
        w.source(0, 1421, 900);
        check.equal(w.agreeing(0), 3);
        check.equal(w.best(0), 521);
        check.equal(w.agreeing(1), 1);
        check.equal(w.best(1), 490);
    }

    private static void roundTheBeginning() {
        Globewright w = new Globewright();
        w.isle();
        w.source(0, 3590, 9);
        check.equal(w.best(0), 3581);
        w.source(0, 3595, 5);
        check.equal(w.agreeing(0), 2);
        check.equal(w.best(0), 3590);
        // Both allow 0 too from here on, which is the least longitude of all.
        w.isle();
        w.source(1, 3590, 10);
        check.equal(w.best(1), 0);
        w.source(1, 20, 20);
        check.equal(w.agreeing(1), 2);
        check.equal(w.best(1), 0);
        w.source(1, 19, 18);
        check.equal(w.agreeing(1), 2);
        check.equal(w.best(1), 0);
        w.source(1, 3599, 0);
        check.equal(w.agreeing(1), 2);
        w.source(1, 50, 49);
        check.equal(w.agreeing(1), 3);
        check.equal(w.best(1), 1);
        w.isle();
        w.source(2, 1800, 900);
        check.equal(w.best(2), 900);
        w.source(2, 0, 900);
        check.equal(w.agreeing(2), 2);
        check.equal(w.best(2), 900);
        w.source(2, 2700, 0);
        check.equal(w.agreeing(2), 3);
        check.equal(w.best(2), 2700);
    }

    private static void bestIsTheLeast() {
        java.util.Random random = new java.util.Random(34);
        for (int run = 0; run < 200; run++) {
            Globewright w = new Globewright();
            w.isle();
            int[][] told = new int[1 + random.nextInt(30)][2];
            int most = 1 + random.nextInt(900);
            for (int[] source : told) {
                source[0] = random.nextInt(3600);
                source[1] = random.nextInt(most);
                w.source(0, source[0], source[1]);
            }
            int best = 0;
            for (int longitude = 0; longitude < 3600; longitude++) {
                if (allowing(told, longitude) > allowing(told, best)) {
                    best = longitude;
                }
            }
            check.equal(w.best(0), best);
            check.equal(w.agreeing(0), allowing(told, best));
        }
    }

    private static int allowing(int[][] told, int longitude) {
        int count = 0;
        for (int[] source : told) {
            int up = Math.floorMod(longitude - source[0], 3600);
            if (up <= source[1] || 3600 - up <= source[1]) {
                count++;
            }
        }
        return count;
    }
}
