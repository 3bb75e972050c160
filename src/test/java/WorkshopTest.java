/** Promises 1, 49 and 50, and the examples of the document. */
public final class WorkshopTest {
    private static final Checks check = new Checks();

    public static void main(String[] args) {
        newObject();
        objectsAreApart();
        checksum();
        checksumWraps();
        isTrue();
        examples();
        check.end();
    }

    private static void newObject() {
        Globewright w = new Globewright();
        check.equal(w.money(), 0);
        check.equal(w.checksum(), 217);
        check.yes(w.isTrue());
        check.fails(ArithmeticException.class, () -> w.balancedShare());
        check.fails(ArithmeticException.class, () -> w.meanGap());
        for (int call = 0; call < 13; call++) {
            int which = call;
            check.fails(IndexOutOfBoundsException.class, () -> askForNumberZero(w, which));
        }
        check.equal(w.growth(0), 100);
        check.equal(w.pass(1), 1601);
        check.equal(w.sphere(100), 0);
        check.equal(w.fact(0, 1500, -1), 0);
        check.equal(w.plate(10), 0);
        check.equal(w.print(0), 0);
        check.equal(w.globe(0), 0);
        check.equal(w.isle(), 0);
        check.equal(w.star(0, 0, 1600), 0);
        check.equal(w.subscribe(2), 0);
    }

    private static void askForNumberZero(Globewright w, int which) {
        switch (which) {
            case 0: w.lean(0, 'e'); break;
            case 1: w.cut(0, 0, 0); break;
            case 2: w.shows(0, 0); break;
            case 3: w.states(0); break;
            case 4: w.print(0); break;
            case 5: w.isPrinted(0, 0); break;
            case 6: w.years(0); break;
            case 7: w.best(0); break;
            case 8: w.starAt(0, 1600, false); break;
            case 9: w.owes(0); break;
            case 10: w.gap(0, 0); break;
            case 11: w.paste(0, 0); break;
            default: w.globe(0); break;
        }
    }

    private static void objectsAreApart() {
        Globewright w = new Globewright();
        Globewright v = new Globewright();
        w.plate(10);
        w.pass(99);
        w.growth(7);
        w.subscribe(100);
        w.news(0, 1400, 1);
        w.claim(0, 1, 1);
        w.isle();
        check.equal(v.checksum(), 217);
        check.equal(v.growth(7), 100);
        check.equal(v.pass(1), 1601);
        check.equal(v.isle(), 0);
        check.equal(v.news(0, 1400, 2), -1);
        check.equal(v.claim(0, 1, 2), -1);
    }

    private static void checksum() {
        Globewright w = new Globewright();
        long sum = 7;
        w.subscribe(200);
        check.equal(w.checksum(), 31 * sum + 100);
        w.plate(100);
        w.plate(50);
        check.equal(w.checksum(), row(7, 0, 1, 0, 1, 100));
        w.fact(0, 1500, -1);
        w.fact(0, 1500, -1);
        w.cut(1, 0, 0);
        w.cut(1, 1, 0);
        w.hammer(1, 0);
        check.equal(w.checksum(), row(7, 0, 1, 1, 4, 100));
        w.print(1);
        w.print(0);
        w.print(1);
        check.equal(w.checksum(), row(7, 0, 1, 1, 4, 1, 0, 1, 100));
        w.sphere(500);
        w.sphere(600);
        w.globe(1);
        w.globe(0);
        check.equal(w.checksum(), row(7, 0, 1, 1, 4, 1, 0, 1, 100));
        w.paste(1, 2);
        w.paste(0, 0);
        w.paste(0, 1);
        check.equal(w.checksum(), row(7, 0, 1, 1, 4, 1, 0, 1, 190, 245, 195, 100));
        w.loseGore(0, 0);
        check.equal(w.checksum(), row(7, 0, 1, 1, 4, 1, 0, 1, 190, 245, 195, 100));
        w.deliver(0);
        check.equal(w.checksum(), row(7, 0, 1, 1, 4, 1, 0, 1, 190, 245, 195, 200));
    }

    private static void checksumWraps() {
        Globewright w = new Globewright();
        long sum = 7;
        for (int plate = 0; plate < 6; plate++) {
            w.plate(999);
            sum = row(sum, 0, 1);
        }
        for (int sheet = 0; sheet < 40; sheet++) {
            w.print(sheet / 8);
            sum = row(sum, sheet / 8);
        }
        w.growth(200);
        w.sphere(100);
        w.globe(0);
        w.paste(0, 39);
        check.equal(w.checksum(), row(sum, 17 - 1198, 0));
    }

    /** What the sum is behind these numbers. */
    private static long row(long sum, int... numbers) {
        long result = sum;
        for (int number : numbers) {
            result = 31 * result + number;
        }
        return result;
    }

    private static void isTrue() {
        Globewright w = new Globewright();
        w.plate(100);
        w.fact(0, 1500, -1);
        w.sphere(500);
        w.sphere(500);
        w.globe(0);
        w.globe(1);
        check.yes(w.isTrue());
        w.print(0);
        w.paste(0, 0);
        w.pass(10);
        check.yes(w.isTrue());
        w.cut(0, 0, 0);
        w.pass(10);
        // Globe 0 can't be of this year any more, but its sheet is older than the last change.
        check.equal(w.yearOf(0, false), 1610);
        check.yes(w.isTrue());
        w.print(0);
        w.paste(1, 1);
        w.lose(1, 0, 0);
        w.subscribe(3);
        w.deliver(1);
        check.yes(w.isTrue());
        w.hammer(0, 0);
        w.loseGore(0, 0);
        w.subscribe(5);
        w.giveUp(1);
        check.yes(w.isTrue());
    }

    private static void examples() {
        Globewright w = new Globewright();
        check.equal(w.plate(100), 0);
        check.equal(w.fact(0, 1500, -1), 0);
        check.equal(w.cut(0, 0, 0), 1);
        check.equal(w.pass(10), 1610);
        check.equal(w.print(0), 0);
        check.equal(w.hammer(0, 0), 0);
        check.equal(w.sphere(500), 0);
        check.equal(w.globe(0), 0);
        check.equal(w.paste(0, 0), 390);
        check.equal(w.years(0), 11);
        check.equal(w.placeOf(0, 0), 108);
        Globewright v = new Globewright();
        check.equal(v.isle(), 0);
        check.equal(v.source(0, 10, 20), 1);
        check.equal(v.source(0, 3590, 15), 2);
        check.equal(v.agreeing(0), 2);
        check.equal(v.best(0), 0);
        Globewright u = new Globewright();
        check.equal(u.subscribe(101), 0);
        check.equal(u.money(), 50);
        check.equal(u.owes(0), 51);
        check.equal(u.giveUp(0), 50);
        check.equal(u.money(), 0);
    }
}
