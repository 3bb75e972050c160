import java.util.NoSuchElementException;

/** Promises 21 to 25 and 48: globes, their gores, and where facts come to stand on them. */
public final class GlobesTest {
    private static final Class<IndexOutOfBoundsException> INDEX = IndexOutOfBoundsException.class;
    private static final Class<UnsupportedOperationException> UNDOABLE = UnsupportedOperationException.class;
    private static final Class<NoSuchElementException> NONE = NoSuchElementException.class;
    private static final Checks check = new Checks();

    public static void main(String[] args) {
        globe();
        paste();
        pasteOnce();
        growthAsPasted();
        gap();
        placeOf();
        placeOnTheFirstGore();
        placeOfASheetStays();
        offOf();
        offOfHalfWayRound();
        meanGap();
        check.end();
    }

    private static void globe() {
        Globewright w = new Globewright();
        check.fails(INDEX, () -> w.globe(0));
        w.sphere(500);
        check.fails(UNDOABLE, () -> w.globe(0));
        w.plate(50);
        for (char direction : "ewnsud".toCharArray()) {
            w.load(0, direction, 1);
            check.fails(UNDOABLE, () -> w.globe(0));
            w.balance(0);
        }
        check.equal(w.globe(0), 0);
        check.fails(UNDOABLE, () -> w.globe(0));
        for (int i = 1; i < 6; i++) {
            w.sphere(500);
        }
        check.equal(w.globe(5), 1);
        check.fails(UNDOABLE, () -> w.globe(5));
        for (int i = 1; i < 5; i++) {
            check.equal(w.globe(i), i + 1);
        }
        for (int wrong : Checks.NO_NUMBERS) {
            check.fails(INDEX, () -> w.globe(wrong));
        }
        check.fails(INDEX, () -> w.globe(6));
    }

    private static void paste() {
        Globewright w = threePlates();
        w.sphere(100);
        w.globe(1);
        check.equal(w.paste(0, 0), 223);
        check.equal(w.paste(0, 2), 301);
        check.equal(w.paste(0, 1), 234);
        // Begins are 0, 33 and 66.
        check.equal(w.paste(1, 3), 33 - 110);
        check.equal(w.paste(1, 4), 33 - 99);
        check.equal(w.paste(1, 5), 34 - 33);
        Globewright v = new Globewright();
        v.plate(999);
        v.sphere(9999);
        v.sphere(100);
        v.globe(0);
        v.globe(1);
        v.print(0);
        v.print(0);
        v.growth(0);
        check.equal(v.paste(0, 0), 9000);
        v.growth(200);
        check.equal(v.paste(1, 1), -1098);
    }

    private static void pasteOnce() {
        Globewright w = threePlates();
        w.sphere(500);
        w.globe(1);
        w.paste(0, 0);
        check.fails(UNDOABLE, () -> w.paste(0, 0));
        check.fails(UNDOABLE, () -> w.paste(1, 0));
        check.fails(UNDOABLE, () -> w.paste(0, 3));
        w.loseGore(0, 0);
        check.fails(UNDOABLE, () -> w.paste(0, 3));
        check.fails(UNDOABLE, () -> w.paste(1, 0));
        w.paste(0, 1);
        w.paste(0, 2);
        check.equal(w.paste(1, 3), 56);
        for (int wrong : Checks.NO_NUMBERS) {
            check.fails(INDEX, () -> w.paste(wrong, 4));
            check.fails(INDEX, () -> w.paste(1, wrong));
        }
        check.fails(INDEX, () -> w.paste(2, 4));
        check.fails(INDEX, () -> w.paste(1, 6));
        // A globe on which a sheet of each plate is pasted takes no more, delivered or not.
        w.subscribe(10);
        check.equal(w.deliver(0), 0);
        check.fails(UNDOABLE, () -> w.paste(0, 4));
    }

    private static void growthAsPasted() {
        Globewright w = threePlates();
        w.fact(0, 1500, -1);
        w.cut(2, 0, 0);
        int late = w.print(2);
        w.growth(0);
        check.equal(w.paste(0, 0), 233);
        w.growth(200);
        check.equal(w.paste(0, 1), 333 - 108);
        w.growth(37);
        check.equal(w.paste(0, late), 334 - 31);
        w.growth(200);
        check.equal(w.gap(0, 2), 334 - 31);
        check.equal(w.placeOf(0, 0), 666 + 29 + 1);
        check.equal(w.gap(0, 0), 233);
    }

    private static void gap() {
        Globewright w = threePlates();
        for (int wrong : Checks.NO_NUMBERS) {
            check.fails(INDEX, () -> w.gap(wrong, 0));
            check.fails(INDEX, () -> w.gap(0, wrong));
        }
        check.fails(INDEX, () -> w.gap(1, 0));
        check.fails(INDEX, () -> w.gap(0, 3));
        for (int plate = 0; plate < 3; plate++) {
            int bare = plate;
            check.fails(NONE, () -> w.gap(0, bare));
        }
        w.paste(0, 1);
        check.equal(w.gap(0, 1), 234);
        check.fails(NONE, () -> w.gap(0, 0));
        check.fails(NONE, () -> w.gap(0, 2));
        w.loseGore(0, 1);
        check.equal(w.gap(0, 1), 234);
    }

    private static void placeOf() {
        Globewright w = new Globewright();
        w.plate(100);
        w.plate(90);
        w.sphere(1000);
        for (int i = 0; i < 5; i++) {
            w.fact(900 * i % 3600, 1500, -1);
        }
        w.cut(0, 0, 0);
        w.cut(0, 1, 99);
        w.cut(0, 2, 10);
        w.cut(1, 3, 20);
        w.globe(0);
        w.print(0);
        w.print(1);
        check.fails(NONE, () -> w.placeOf(0, 0));
        w.paste(0, 0);
        w.growth(55);
        w.paste(0, 1);
        check.equal(w.placeOf(0, 0), 108);
        check.equal(w.placeOf(0, 1), 0);
        check.equal(w.placeOf(0, 2), 97);
        check.equal(w.placeOf(0, 3), 500 + 69 + 3);
        check.fails(NONE, () -> w.placeOf(0, 4));
        w.lose(0, 0, 1);
        check.fails(NONE, () -> w.placeOf(0, 1));
        check.fails(NONE, () -> w.offOf(0, 1));
        check.equal(w.placeOf(0, 2), 97);
        w.loseGore(0, 0);
        check.fails(NONE, () -> w.placeOf(0, 0));
        check.fails(NONE, () -> w.offOf(0, 0));
        check.equal(w.placeOf(0, 3), 572);
        for (int wrong : Checks.NO_NUMBERS) {
            check.fails(INDEX, () -> w.placeOf(wrong, 0));
            check.fails(INDEX, () -> w.placeOf(0, wrong));
            check.fails(INDEX, () -> w.offOf(wrong, 0));
            check.fails(INDEX, () -> w.offOf(0, wrong));
        }
        check.fails(INDEX, () -> w.placeOf(1, 0));
        check.fails(INDEX, () -> w.placeOf(0, 5));
        check.fails(INDEX, () -> w.offOf(1, 0));
        check.fails(INDEX, () -> w.offOf(0, 5));
    }

    private static void placeOnTheFirstGore() {
        Globewright w = new Globewright();
        for (int plate = 0; plate < 3; plate++) {
            w.plate(100);
        }
        w.sphere(1000);
        w.growth(0);
        w.fact(0, 1500, -1);
        for (int plate = 0; plate < 3; plate++) {
            w.cut(plate, 0, 10 * plate);
            w.print(plate);
        }
        w.globe(0);
        w.paste(0, 2);
        check.equal(w.placeOf(0, 0), 666 + 79);
        w.paste(0, 0);
        check.equal(w.placeOf(0, 0), 99);
        w.paste(0, 1);
        check.equal(w.placeOf(0, 0), 99);
        check.equal(w.offOf(0, 0), 99);
        w.lose(0, 0, 0);
        check.equal(w.placeOf(0, 0), 333 + 89);
        check.equal(w.offOf(0, 0), 422);
        w.loseGore(0, 1);
        check.equal(w.placeOf(0, 0), 745);
        check.equal(w.offOf(0, 0), -255);
    }

    private static void placeOfASheetStays() {
        Globewright w = new Globewright();
        w.plate(100);
        w.growth(0);
        w.sphere(1000);
        w.sphere(1000);
        w.fact(0, 1500, -1);
        w.fact(0, 1500, -1);
        w.cut(0, 0, 20);
        w.cut(0, 1, 30);
        w.print(0);
        w.hammer(0, 0);
        w.cut(0, 0, 40);
        w.print(0);
        w.hammer(0, 0);
        w.hammer(0, 1);
        w.cut(0, 1, 5);
        w.globe(0);
        w.globe(1);
        w.paste(0, 0);
        w.paste(1, 1);
        check.equal(w.placeOf(0, 0), 79);
        check.equal(w.placeOf(1, 0), 59);
        check.equal(w.placeOf(0, 1), 69);
        check.equal(w.placeOf(1, 1), 69);
    }

    private static void offOf() {
        check.equal(off(1000, 900, 97), -153);
        check.equal(off(1000, 0, 0), 0);
        check.equal(off(1000, 1, 0), 0);
        check.equal(off(1000, 3, 0), 0);
        check.equal(off(1000, 4, 0), -1);
        check.equal(off(1000, 3599, 0), 1);
        check.equal(off(1000, 3599, 998), -1);
        check.equal(off(9999, 3599, 5), 8);
        check.equal(off(9999, 1234, 998), 998 - 3427);
        check.equal(off(100, 0, 998), -2);
        check.equal(off(100, 3599, 998), -1);
        check.equal(off(100, 1000, 149), 22);
        // With the greatest growth a place goes round the smallest sphere eleven times.
        Globewright w = new Globewright();
        w.plate(999);
        w.sphere(100);
        w.fact(0, 1500, -1);
        w.cut(0, 0, 0);
        w.growth(200);
        w.globe(0);
        w.print(0);
        w.paste(0, 0);
        check.equal(w.placeOf(0, 0), 1197);
        check.equal(w.offOf(0, 0), -3);
    }

    private static void offOfHalfWayRound() {
        check.equal(off(1000, 0, 499), 499);
        check.equal(off(1000, 0, 500), 500);
        check.equal(off(1000, 0, 501), -499);
        check.equal(off(1000, 1800, 0), 500);
        check.equal(off(1000, 1800, 1), -499);
        check.equal(off(101, 0, 50), 50);
        check.equal(off(101, 0, 51), -50);
        check.equal(off(101, 1800, 0), -50);
    }

    /** How far a fact is off that stands just at this place, on dry paper. */
    private static int off(int circumference, int longitude, int place) {
        Globewright w = new Globewright();
        w.plate(999);
        w.sphere(circumference);
        w.fact(longitude, 1500, -1);
        w.cut(0, 0, 998 - place);
        w.growth(0);
        w.globe(0);
        w.print(0);
        w.paste(0, 0);
        check.equal(w.placeOf(0, 0), place);
        return w.offOf(0, 0);
    }

    private static void meanGap() {
        Globewright w = threePlates();
        check.fails(ArithmeticException.class, () -> w.meanGap());
        check.fails(ArithmeticException.class, () -> new Globewright().meanGap());
        w.paste(0, 0);
        check.equal(w.meanGap(), 223.0);
        w.paste(0, 1);
        check.equal(w.meanGap(), 228.5);
        w.loseGore(0, 0);
        check.equal(w.meanGap(), 228.5);
        w.sphere(100);
        w.globe(1);
        w.paste(1, 3);
        check.equal(w.meanGap(), 380.0 / 3.0);
        w.growth(200);
        w.paste(1, 4);
        w.paste(1, 5);
        check.equal(w.meanGap(), (380.0 - 75 - 2) / 5);
    }

    /** Plates of the widths 100, 90 and 30, two sheets of each, and a globe of 1000. */
    private static Globewright threePlates() {
        Globewright w = new Globewright();
        w.plate(100);
        w.plate(90);
        w.plate(30);
        w.sphere(1000);
        w.globe(0);
        for (int sheet = 0; sheet < 6; sheet++) {
            w.print(sheet % 3);
        }
        return w;
    }
}
