/** Promises 4 to 9 and 47: spheres, their leans and scales. */
public final class SpheresTest {
    private static final Class<IndexOutOfBoundsException> INDEX = IndexOutOfBoundsException.class;
    private static final Class<IllegalArgumentException> ARGUMENT = IllegalArgumentException.class;
    private static final Class<UnsupportedOperationException> UNDOABLE = UnsupportedOperationException.class;
    private static final Class<IllegalStateException> STATE = IllegalStateException.class;
    private static final Checks check = new Checks();

    public static void main(String[] args) {
        sphere();
        load();
        lean();
        balance();
        leanBits();
        leanBitsAreThoseOfTheLibrary();
        scaleBits();
        balancedShare();
        check.end();
    }

    private static void sphere() {
        Globewright w = new Globewright();
        for (int wrong : new int[] {99, 10000, 0, -100, Integer.MIN_VALUE, Integer.MAX_VALUE}) {
            check.fails(ARGUMENT, () -> w.sphere(wrong));
        }
        int[] right = {100, 9999, 101, 9998, 500, 500};
        for (int i = 0; i < right.length; i++) {
            check.equal(w.sphere(right[i]), i);
        }
        check.fails(STATE, () -> w.sphere(100));
        check.fails(ARGUMENT, () -> w.sphere(99));
    }

    private static void load() {
        Globewright w = new Globewright();
        check.fails(INDEX, () -> w.load(0, 'e', 1));
        w.sphere(500);
        w.sphere(500);
        for (char direction : "ewnsud".toCharArray()) {
            check.equal(w.load(0, direction, 1), 1);
            check.equal(w.load(0, direction, 999), 1000);
        }
        check.equal(w.load(1, 'e', 7), 7);
        check.equal(w.load(0, 'e', 2), 1002);
        for (int wrong : Checks.NO_NUMBERS) {
            check.fails(INDEX, () -> w.load(wrong, '?', 0));
        }
        check.fails(INDEX, () -> w.load(2, 'e', 1));
        for (char wrong : new char[] {'E', 'x', 'a', 0, (char) 233, (char) (256 + 'e'), (char) 65535}) {
            check.fails(ARGUMENT, () -> w.load(0, wrong, 1));
        }
        for (int wrong : new int[] {0, 1000, -1, Integer.MIN_VALUE, Integer.MAX_VALUE}) {
            check.fails(ARGUMENT, () -> w.load(0, 'e', wrong));
        }
        check.equal(w.load(0, 'e', 1), 1003);
        w.plate(100);
        w.balance(1);
        w.globe(1);
        check.fails(UNDOABLE, () -> w.load(1, 'e', 1));
        check.fails(ARGUMENT, () -> w.load(1, 'x', 1));
        check.fails(ARGUMENT, () -> w.load(1, 'e', 0));
        check.equal(w.lean(1, 'e'), 0);
        check.equal(w.load(0, 'w', 1), 1001);
    }

    private static void lean() {
        Globewright w = new Globewright();
        check.fails(INDEX, () -> w.lean(0, 'e'));
        w.sphere(500);
        w.sphere(500);
        for (char axis : "enu".toCharArray()) {
            check.equal(w.lean(0, axis), 0);
        }
        w.load(0, 'e', 10);
        w.load(0, 'w', 3);
        w.load(0, 'n', 20);
        w.load(0, 's', 45);
        w.load(0, 'u', 70);
        w.load(0, 'd', 71);
        check.equal(w.lean(0, 'e'), 7);
        check.equal(w.lean(0, 'n'), -25);
        check.equal(w.lean(0, 'u'), -1);
        check.equal(w.lean(1, 'e'), 0);
        for (int wrong : Checks.NO_NUMBERS) {
            check.fails(INDEX, () -> w.lean(wrong, 'x'));
        }
        check.fails(INDEX, () -> w.lean(2, 'e'));
        for (char wrong : new char[] {'w', 's', 'd', 'E', 0, (char) (256 + 'n'), (char) 65535}) {
            check.fails(ARGUMENT, () -> w.lean(0, wrong));
        }
    }

    private static void balance() {
        Globewright w = new Globewright();
        check.fails(INDEX, () -> w.balance(0));
        w.sphere(500);
        check.equal(w.balance(0), 0);
        w.load(0, 'e', 10);
        w.load(0, 's', 20);
        w.load(0, 'u', 500);
        w.load(0, 'd', 470);
        check.equal(w.balance(0), 60);
        check.equal(w.balance(0), 0);
        for (char axis : "enu".toCharArray()) {
            check.equal(w.lean(0, axis), 0);
        }
        // The shot lies in the lighter direction of each axis, and the lumps stay where they were.
        int[] lying = {10, 10, 20, 20, 500, 500};
        for (int i = 0; i < 6; i++) {
            check.equal(w.load(0, "ewnsud".charAt(i), 1), lying[i] + 1);
        }
        check.equal(w.balance(0), 0);
        w.load(0, 'w', 1);
        w.load(0, 'n', 2);
        w.load(0, 'd', 4);
        check.equal(w.balance(0), 7);
        w.plate(100);
        w.globe(0);
        check.equal(w.balance(0), 0);
        for (int wrong : Checks.NO_NUMBERS) {
            check.fails(INDEX, () -> w.balance(wrong));
        }
        check.fails(INDEX, () -> w.balance(1));
    }

    private static void leanBits() {
        Globewright w = new Globewright();
        check.fails(INDEX, () -> w.leanBits(0));
        for (int wrong : Checks.NO_NUMBERS) {
            check.fails(INDEX, () -> w.leanBits(wrong));
        }
        int[][] leans = {{5, -3}, {1, 3}, {2, 3}, {999, 7}, {1, 998}, {-1, 3}, {-7, -11}, {6, 3}, {-4, 1},
            {998, 999}, {0, 0}, {7, 0}, {-7, 0}, {0, 7}, {0, -7}};
        long[] bits = {-4613187218303178069L, 4599676419421066581L, 4604180019048437077L, 4639225329095203694L,
            4562263750773117691L, -4623695617433709227L, 4603907073616475229L, 4611686018427387904L,
            -4607182418800017408L, 4607173402584547197L, 0x7ff8000000000000L, 0x7ff0000000000000L,
            0xfff0000000000000L, 0L, 0x8000000000000000L};
        for (int i = 0; i < leans.length; i++) {
            check.equal(leaning(leans[i][0], leans[i][1]).leanBits(0), bits[i]);
        }
        Globewright up = leaning(1, 4);
        up.load(0, 'u', 900);
        check.equal(up.leanBits(0), Double.doubleToLongBits(0.25));
        check.fails(INDEX, () -> up.leanBits(1));
    }

    private static void leanBitsAreThoseOfTheLibrary() {
        for (int east = -999; east <= 999; east += 37) {
            for (int north = -999; north <= 999; north += 41) {
                long due = Double.doubleToLongBits((double) east / (double) north);
                check.equal(leaning(east, north).leanBits(0), due);
            }
        }
        Globewright w = leaning(999, -1);
        for (int i = 0; i < 500; i++) {
            w.load(0, 'e', 999);
        }
        check.equal(w.leanBits(0), Double.doubleToLongBits(-501.0 * 999.0));
        Globewright v = leaning(1, 999);
        for (int i = 0; i < 500; i++) {
            v.load(0, 'n', 999);
        }
        check.equal(v.leanBits(0), Double.doubleToLongBits(1.0 / (501.0 * 999.0)));
    }

    private static Globewright leaning(int east, int north) {
        Globewright w = new Globewright();
        w.sphere(500);
        if (east != 0) {
            w.load(0, east > 0 ? 'e' : 'w', Math.abs(east));
        }
        if (north != 0) {
            w.load(0, north > 0 ? 'n' : 's', Math.abs(north));
        }
        return w;
    }

    private static void scaleBits() {
        Globewright w = new Globewright();
        check.fails(INDEX, () -> w.scaleBits(0, 1));
        int[] circumferences = {100, 1000, 9999, 4321};
        for (int circumference : circumferences) {
            w.sphere(circumference);
        }
        check.equal(w.scaleBits(1, 4000), 1048576000);
        check.equal(w.scaleBits(1, 0), 2139095040);
        check.equal(w.scaleBits(1, -1), -998637568);
        int[] lengths = {1, 2, 3, -3, 7, 99, 100, 101, -1000, 9999, 10000, 4320, 16777217, 16777219, -33554435,
            123456789, 2000000000, Integer.MAX_VALUE, Integer.MIN_VALUE, Integer.MIN_VALUE + 1, 0};
        for (int i = 0; i < circumferences.length; i++) {
            for (int length : lengths) {
                check.equal(w.scaleBits(i, length),
                        Float.floatToIntBits((float) circumferences[i] / (float) length));
            }
        }
        for (int length = -3000; length < 3000; length++) {
            Globewright one = new Globewright();
            one.sphere(9999);
            check.equal(one.scaleBits(0, length), Float.floatToIntBits(9999f / (float) length));
        }
        for (int wrong : Checks.NO_NUMBERS) {
            check.fails(INDEX, () -> w.scaleBits(wrong, 0));
        }
        check.fails(INDEX, () -> w.scaleBits(4, 1));
    }

    private static void balancedShare() {
        Globewright w = new Globewright();
        check.fails(ArithmeticException.class, () -> w.balancedShare());
        w.sphere(500);
        check.equal(w.balancedShare(), 1.0f);
        w.load(0, 'd', 1);
        check.equal(w.balancedShare(), 0.0f);
        w.sphere(500);
        w.sphere(500);
        check.equal(w.balancedShare(), 2f / 3f);
        w.load(1, 's', 1);
        check.equal(w.balancedShare(), 1f / 3f);
        w.load(1, 'n', 1);
        w.load(0, 'e', 1);
        w.balance(0);
        check.equal(w.balancedShare(), 1.0f);
    }
}
