/** Promises 10 to 20: years, facts, plates, sheets and how paper grows. */
public final class PlatesTest {
    private static final Class<IndexOutOfBoundsException> INDEX = IndexOutOfBoundsException.class;
    private static final Class<IllegalArgumentException> ARGUMENT = IllegalArgumentException.class;
    private static final Class<UnsupportedOperationException> UNDOABLE = UnsupportedOperationException.class;
    private static final Class<IllegalStateException> STATE = IllegalStateException.class;
    private static final Checks check = new Checks();

    public static void main(String[] args) {
        pass();
        fact();
        plate();
        cut();
        cutInItsTime();
        hammer();
        changesEnd();
        shows();
        sharpen();
        print();
        sheetsEnd();
        isPrinted();
        growth();
        check.end();
    }

    private static void pass() {
        Globewright w = new Globewright();
        for (int wrong : new int[] {0, 100, -1, Integer.MIN_VALUE, Integer.MAX_VALUE}) {
            check.fails(ARGUMENT, () -> w.pass(wrong));
        }
        check.equal(w.pass(1), 1601);
        check.equal(w.pass(99), 1700);
        check.equal(w.pass(99), 1799);
        check.equal(w.pass(99), 1898);
        check.equal(w.pass(99), 1997);
        check.fails(STATE, () -> w.pass(3));
        check.equal(w.pass(2), 1999);
        check.fails(STATE, () -> w.pass(1));
        check.fails(ARGUMENT, () -> w.pass(0));
    }

    private static void fact() {
        Globewright w = new Globewright();
        for (int wrong : new int[] {-1, 3600, Integer.MIN_VALUE, Integer.MAX_VALUE}) {
            check.fails(ARGUMENT, () -> w.fact(wrong, 1500, -1));
        }
        for (int wrong : new int[] {1399, 2000, -1, Integer.MIN_VALUE, Integer.MAX_VALUE}) {
            check.fails(ARGUMENT, () -> w.fact(0, wrong, -1));
        }
        for (int wrong : new int[] {1499, 2000, 0, -2, Integer.MIN_VALUE, Integer.MAX_VALUE}) {
            check.fails(ARGUMENT, () -> w.fact(0, 1500, wrong));
        }
        int[][] right = {{0, 1400, -1}, {3599, 1999, -1}, {0, 1999, 1999}, {0, 1400, 1400}, {0, 1500, 1500},
            {0, 1500, 1501}, {0, 1500, 1999}};
        for (int i = 0; i < 24; i++) {
            int[] row = right[i % right.length];
            check.equal(w.fact(row[0], row[1], row[2]), i);
        }
        check.fails(STATE, () -> w.fact(0, 1500, -1));
        check.fails(ARGUMENT, () -> w.fact(-1, 1500, -1));
    }

    private static void plate() {
        Globewright w = new Globewright();
        for (int wrong : new int[] {9, 1000, 0, -10, Integer.MIN_VALUE, Integer.MAX_VALUE}) {
            check.fails(ARGUMENT, () -> w.plate(wrong));
        }
        int[] right = {10, 999, 11, 998, 100, 100};
        for (int i = 0; i < right.length; i++) {
            check.equal(w.plate(right[i]), i);
        }
        check.fails(STATE, () -> w.plate(100));
        check.fails(ARGUMENT, () -> w.plate(9));
        Globewright v = new Globewright();
        v.sphere(500);
        v.plate(10);
        v.globe(0);
        check.fails(STATE, () -> v.plate(10));
        check.fails(ARGUMENT, () -> v.plate(9));
    }

    private static void cut() {
        Globewright w = new Globewright();
        check.fails(INDEX, () -> w.cut(0, 0, 0));
        w.plate(50);
        check.fails(INDEX, () -> w.cut(0, 0, 0));
        for (int i = 0; i < 24; i++) {
            w.fact(i, 1500, -1);
        }
        w.plate(10);
        for (int wrong : Checks.NO_NUMBERS) {
            check.fails(INDEX, () -> w.cut(wrong, 0, -1));
            check.fails(INDEX, () -> w.cut(0, wrong, -1));
        }
        check.fails(INDEX, () -> w.cut(2, 0, 0));
        check.fails(INDEX, () -> w.cut(0, 24, 0));
        for (int wrong : new int[] {-1, 50, Integer.MIN_VALUE, Integer.MAX_VALUE}) {
            check.fails(ARGUMENT, () -> w.cut(0, 0, wrong));
        }
        check.fails(ARGUMENT, () -> w.cut(1, 0, 10));
        check.equal(w.cut(0, 0, 49), 1);
        check.fails(UNDOABLE, () -> w.cut(0, 0, 49));
        check.fails(ARGUMENT, () -> w.cut(0, 0, 50));
        check.equal(w.cut(1, 0, 9), 1);
        for (int i = 1; i < 24; i++) {
            check.equal(w.cut(0, i, 0), i + 1);
        }
        check.equal(w.states(0), 25);
        check.equal(w.states(1), 2);
    }

    private static void cutInItsTime() {
        Globewright w = new Globewright();
        w.plate(100);
        w.fact(0, 1601, -1);
        w.fact(0, 1601, 1602);
        w.fact(0, 1601, 1601);
        w.fact(0, 1400, 1600);
        w.fact(0, 1400, 1601);
        w.fact(0, 1400, 1400);
        w.fact(0, 1600, 1600);
        for (int early = 0; early < 4; early++) {
            int fact = early;
            check.fails(UNDOABLE, () -> w.cut(0, fact, 0));
        }
        check.equal(w.cut(0, 4, 0), 1);
        check.equal(w.cut(0, 5, 0), 2);
        check.equal(w.cut(0, 6, 0), 3);
        w.hammer(0, 4);
        w.pass(1);
        check.fails(UNDOABLE, () -> w.cut(0, 4, 0));
        check.equal(w.cut(0, 0, 0), 3);
        check.equal(w.cut(0, 1, 0), 4);
        check.equal(w.cut(0, 2, 0), 5);
        w.hammer(0, 1);
        w.hammer(0, 2);
        w.pass(1);
        check.fails(UNDOABLE, () -> w.cut(0, 1, 0));
        w.pass(99);
        check.equal(w.cut(0, 2, 0), 4);
        w.hammer(0, 0);
        check.equal(w.cut(0, 0, 0), 4);
        check.fails(ARGUMENT, () -> w.cut(0, 1, 100));
    }

    private static void hammer() {
        Globewright w = new Globewright();
        check.fails(INDEX, () -> w.hammer(0, 0));
        w.plate(50);
        w.plate(50);
        check.fails(INDEX, () -> w.hammer(0, 0));
        w.fact(0, 1500, -1);
        w.fact(0, 1500, 1602);
        check.fails(UNDOABLE, () -> w.hammer(0, 0));
        w.cut(0, 0, 5);
        w.cut(0, 1, 6);
        check.fails(UNDOABLE, () -> w.hammer(1, 0));
        for (int wrong : Checks.NO_NUMBERS) {
            check.fails(INDEX, () -> w.hammer(wrong, 0));
            check.fails(INDEX, () -> w.hammer(0, wrong));
        }
        check.fails(INDEX, () -> w.hammer(2, 0));
        check.fails(INDEX, () -> w.hammer(0, 2));
        check.equal(w.hammer(0, 0), 1);
        check.fails(UNDOABLE, () -> w.hammer(0, 0));
        check.equal(w.cut(0, 0, 7), 2);
        w.pass(50);
        // A fact that is known to be false can still be hammered out.
        check.equal(w.hammer(0, 1), 1);
        check.equal(w.states(0), 6);
    }

    private static void changesEnd() {
        Globewright w = new Globewright();
        w.plate(50);
        w.plate(50);
        w.fact(0, 1500, -1);
        w.fact(0, 1500, -1);
        w.fact(0, 1700, -1);
        check.equal(w.states(0), 1);
        for (int i = 0; i < 14; i++) {
            check.equal(w.cut(0, 0, i), 1);
            check.equal(w.states(0), 2 + 2 * i);
            check.equal(w.hammer(0, 0), 0);
            check.equal(w.states(0), 3 + 2 * i);
        }
        check.equal(w.cut(0, 0, 1), 1);
        check.equal(w.cut(0, 1, 1), 2);
        check.equal(w.states(0), 31);
        check.fails(STATE, () -> w.hammer(0, 0));
        check.fails(UNDOABLE, () -> w.hammer(0, 2));
        check.fails(UNDOABLE, () -> w.cut(0, 0, 1));
        check.fails(UNDOABLE, () -> w.cut(0, 2, 1));
        check.fails(ARGUMENT, () -> w.cut(0, 2, 50));
        check.equal(w.states(0), 31);
        check.yes(w.shows(0, 0));
        w.fact(0, 1500, -1);
        check.fails(STATE, () -> w.cut(0, 3, 1));
        check.no(w.shows(0, 3));
        check.equal(w.cut(1, 3, 1), 1);
        for (int wrong : Checks.NO_NUMBERS) {
            check.fails(INDEX, () -> w.states(wrong));
        }
        check.fails(INDEX, () -> w.states(2));
        check.yes(w.isTrue());
    }

    private static void shows() {
        Globewright w = new Globewright();
        check.fails(INDEX, () -> w.shows(0, 0));
        w.plate(50);
        w.plate(50);
        check.fails(INDEX, () -> w.shows(0, 0));
        for (int i = 0; i < 24; i++) {
            w.fact(0, 1500, -1);
        }
        w.cut(1, 3, 0);
        w.cut(1, 23, 0);
        for (int i = 0; i < 24; i++) {
            check.equal(w.shows(1, i) ? 1 : 0, i == 3 || i == 23 ? 1 : 0);
            check.no(w.shows(0, i));
        }
        w.hammer(1, 3);
        check.no(w.shows(1, 3));
        check.yes(w.shows(1, 23));
        w.cut(1, 3, 1);
        check.yes(w.shows(1, 3));
        for (int wrong : Checks.NO_NUMBERS) {
            check.fails(INDEX, () -> w.shows(wrong, 0));
            check.fails(INDEX, () -> w.shows(0, wrong));
        }
        check.fails(INDEX, () -> w.shows(2, 0));
        check.fails(INDEX, () -> w.shows(0, 24));
    }

    private static void sharpen() {
        Globewright w = new Globewright();
        check.fails(INDEX, () -> w.sharpen(0));
        w.plate(50);
        w.plate(50);
        check.equal(w.sharpen(0), 0);
        w.print(0);
        w.print(0);
        w.print(0);
        w.print(1);
        check.equal(w.sharpen(0), 3);
        check.equal(w.sharpen(0), 0);
        check.equal(w.sharpen(1), 1);
        w.print(0);
        check.equal(w.sharpen(0), 1);
        for (int wrong : Checks.NO_NUMBERS) {
            check.fails(INDEX, () -> w.sharpen(wrong));
        }
        check.fails(INDEX, () -> w.sharpen(2));
    }

    private static void print() {
        Globewright w = new Globewright();
        check.fails(INDEX, () -> w.print(0));
        w.plate(50);
        w.plate(60);
        for (int i = 0; i < 8; i++) {
            check.equal(w.print(0), i);
        }
        check.fails(UNDOABLE, () -> w.print(0));
        check.equal(w.print(1), 8);
        check.equal(w.sharpen(0), 8);
        check.equal(w.print(0), 9);
        check.equal(w.sharpen(0), 1);
        for (int wrong : Checks.NO_NUMBERS) {
            check.fails(INDEX, () -> w.print(wrong));
        }
        check.fails(INDEX, () -> w.print(2));
    }

    private static void sheetsEnd() {
        Globewright w = new Globewright();
        for (int plate = 0; plate < 6; plate++) {
            w.plate(50);
        }
        for (int i = 0; i < 40; i++) {
            check.equal(w.print(i / 8), i);
        }
        check.fails(STATE, () -> w.print(5));
        check.fails(UNDOABLE, () -> w.print(4));
        check.equal(w.sharpen(5), 0);
        check.equal(w.sharpen(4), 8);
        check.fails(STATE, () -> w.print(4));
    }

    private static void isPrinted() {
        Globewright w = new Globewright();
        check.fails(INDEX, () -> w.isPrinted(0, 0));
        w.plate(50);
        w.plate(50);
        w.fact(0, 1500, -1);
        w.fact(0, 1500, -1);
        w.print(0);
        w.cut(0, 0, 5);
        w.print(0);
        w.cut(0, 1, 5);
        w.print(0);
        w.hammer(0, 0);
        w.print(0);
        w.print(1);
        int[][] due = {{0, 0}, {1, 0}, {1, 1}, {0, 1}, {0, 0}};
        for (int sheet = 0; sheet < due.length; sheet++) {
            for (int fact = 0; fact < 2; fact++) {
                check.equal(w.isPrinted(sheet, fact) ? 1 : 0, due[sheet][fact]);
            }
        }
        for (int wrong : Checks.NO_NUMBERS) {
            check.fails(INDEX, () -> w.isPrinted(wrong, 0));
            check.fails(INDEX, () -> w.isPrinted(0, wrong));
        }
        check.fails(INDEX, () -> w.isPrinted(5, 0));
        check.fails(INDEX, () -> w.isPrinted(0, 2));
    }

    private static void growth() {
        Globewright w = new Globewright();
        for (int wrong : new int[] {-1, 201, Integer.MIN_VALUE, Integer.MAX_VALUE}) {
            check.fails(ARGUMENT, () -> w.growth(wrong));
        }
        check.equal(w.growth(0), 100);
        check.equal(w.growth(200), 0);
        check.fails(ARGUMENT, () -> w.growth(201));
        check.equal(w.growth(55), 200);
        check.equal(w.growth(55), 55);
    }
}
