import java.util.NoSuchElementException;

/** Promises 26 to 30: losses, dating and pirates. */
public final class DatingTest {
    private static final Class<IndexOutOfBoundsException> INDEX = IndexOutOfBoundsException.class;
    private static final Class<IllegalArgumentException> ARGUMENT = IllegalArgumentException.class;
    private static final Class<UnsupportedOperationException> UNDOABLE = UnsupportedOperationException.class;
    private static final Class<NoSuchElementException> NONE = NoSuchElementException.class;
    private static final Checks check = new Checks();

    public static void main(String[] args) {
        lose();
        loseGore();
        yearsOfStates();
        yearsOfSeveralTimes();
        yearsOfTwoPlates();
        yearsWithLosses();
        yearsOfABareGlobe();
        yearsFromThePlatesYear();
        wrongGlobes();
        isPirate();
        isPirateWithLosses();
        isPirateOnAnyGore();
        check.end();
    }

    private static void lose() {
        Globewright w = twoStates();
        w.print(0);
        w.sphere(500);
        w.globe(0);
        for (int wrong : Checks.NO_NUMBERS) {
            check.fails(INDEX, () -> w.lose(wrong, 0, 0));
            check.fails(INDEX, () -> w.lose(0, wrong, 0));
            check.fails(INDEX, () -> w.lose(0, 0, wrong));
        }
        check.fails(INDEX, () -> w.lose(1, 0, 0));
        check.fails(INDEX, () -> w.lose(0, 2, 0));
        check.fails(INDEX, () -> w.lose(0, 0, 3));
        check.fails(NONE, () -> w.lose(0, 0, 0));
        w.paste(0, 0);
        check.fails(NONE, () -> w.lose(0, 1, 0));
        check.yes(w.lose(0, 0, 0));
        check.fails(UNDOABLE, () -> w.lose(0, 0, 0));
        check.no(w.lose(0, 0, 2));
        check.fails(UNDOABLE, () -> w.lose(0, 0, 2));
        check.yes(w.isPrinted(0, 0));
        check.yes(w.shows(0, 0));
        check.yes(w.lose(0, 0, 1));
        w.fact(0, 1500, -1);
        w.loseGore(0, 0);
        check.fails(UNDOABLE, () -> w.lose(0, 0, 3));
        check.fails(UNDOABLE, () -> w.lose(0, 0, 0));
    }

    private static void loseGore() {
        Globewright w = twoStates();
        w.print(0);
        w.print(1);
        w.print(0);
        w.sphere(500);
        w.sphere(500);
        w.globe(0);
        w.globe(1);
        for (int wrong : Checks.NO_NUMBERS) {
            check.fails(INDEX, () -> w.loseGore(wrong, 0));
            check.fails(INDEX, () -> w.loseGore(0, wrong));
        }
        check.fails(INDEX, () -> w.loseGore(2, 0));
        check.fails(INDEX, () -> w.loseGore(0, 2));
        check.fails(NONE, () -> w.loseGore(0, 0));
        w.paste(0, 0);
        w.paste(0, 1);
        w.paste(1, 2);
        w.lose(0, 0, 0);
        w.lose(0, 0, 2);
        check.equal(w.loseGore(0, 0), 1);
        check.fails(UNDOABLE, () -> w.loseGore(0, 0));
        check.equal(w.loseGore(0, 1), 0);
        check.equal(w.loseGore(1, 0), 2);
        check.fails(NONE, () -> w.loseGore(1, 1));
    }

    /** Plate 0 is bare in 1600, shows fact 0 from 1610 on, and fact 1 too from 1620 on; plate 1 stays bare. */
    private static Globewright twoStates() {
        Globewright w = new Globewright();
        w.plate(100);
        w.plate(100);
        w.fact(0, 1500, -1);
        w.fact(0, 1500, -1);
        w.fact(0, 1500, -1);
        w.pass(10);
        w.cut(0, 0, 0);
        w.pass(10);
        w.cut(0, 1, 0);
        w.pass(10);
        return w;
    }

    private static void yearsOfStates() {
        Globewright w = new Globewright();
        w.plate(100);
        w.fact(0, 1500, -1);
        w.fact(0, 1500, -1);
        w.print(0);
        w.pass(10);
        w.cut(0, 0, 0);
        w.print(0);
        w.pass(10);
        w.cut(0, 1, 0);
        w.print(0);
        w.pass(10);
        for (int i = 0; i < 3; i++) {
            w.sphere(500);
            w.globe(i);
            w.paste(i, i);
        }
        dated(w, 0, 11, 1600, 1610);
        dated(w, 1, 11, 1610, 1620);
        dated(w, 2, 11, 1620, 1630);
        w.pass(5);
        dated(w, 1, 11, 1610, 1620);
        dated(w, 2, 16, 1620, 1635);
        w.hammer(0, 0);
        dated(w, 2, 16, 1620, 1635);
        w.pass(1);
        dated(w, 2, 16, 1620, 1635);
        check.yes(w.isTrue());
    }

    private static void yearsOfSeveralTimes() {
        Globewright w = new Globewright();
        w.plate(100);
        w.fact(0, 1500, -1);
        w.cut(0, 0, 0);
        w.sphere(500);
        w.globe(0);
        w.print(0);
        w.paste(0, 0);
        w.pass(10);
        w.hammer(0, 0);
        w.pass(10);
        w.cut(0, 0, 50);
        w.pass(10);
        w.hammer(0, 0);
        w.pass(10);
        // From 1600 to 1610 and from 1620 to 1630; where the fact stands does not matter.
        dated(w, 0, 22, 1600, 1630);
        w.cut(0, 0, 0);
        dated(w, 0, 23, 1600, 1640);
        w.hammer(0, 0);
        w.pass(99);
        dated(w, 0, 23, 1600, 1640);
    }

    private static void yearsOfTwoPlates() {
        Globewright w = twoStates();
        w.sphere(500);
        w.sphere(500);
        w.globe(0);
        w.globe(1);
        w.print(0);
        w.cut(1, 0, 0);
        w.hammer(1, 0);
        w.print(1);
        w.cut(1, 2, 0);
        w.print(1);
        w.hammer(0, 0);
        w.pass(3);
        w.print(0);
        w.paste(0, 0);
        dated(w, 0, 11, 1620, 1630);
        w.paste(0, 2);
        dated(w, 0, 1, 1630, 1630);
        w.paste(1, 1);
        dated(w, 1, 31, 1600, 1630);
        w.paste(1, 3);
        dated(w, 1, 1, 1630, 1630);
        Globewright v = twoStates();
        v.sphere(500);
        v.globe(0);
        v.print(0);
        v.cut(1, 2, 0);
        v.pass(1);
        v.hammer(0, 0);
        v.pass(1);
        v.cut(1, 1, 0);
        v.print(1);
        v.paste(0, 0);
        v.paste(0, 1);
        // One plate tells of 1620 to 1631, the other one of 1632.
        check.equal(v.years(0), 0);
        check.fails(NONE, () -> v.yearOf(0, true));
        check.fails(NONE, () -> v.yearOf(0, false));
        check.yes(v.isTrue());
        v.loseGore(0, 0);
        dated(v, 0, 1, 1632, 1632);
        v.loseGore(0, 1);
        dated(v, 0, 33, 1600, 1632);
    }

    private static void yearsWithLosses() {
        Globewright w = twoStates();
        w.sphere(500);
        w.sphere(500);
        w.globe(0);
        w.globe(1);
        w.print(0);
        w.print(0);
        w.paste(0, 0);
        w.paste(1, 1);
        dated(w, 0, 11, 1620, 1630);
        w.lose(0, 0, 2);
        dated(w, 0, 11, 1620, 1630);
        w.lose(0, 0, 1);
        dated(w, 0, 21, 1610, 1630);
        w.lose(0, 0, 0);
        dated(w, 0, 31, 1600, 1630);
        dated(w, 1, 11, 1620, 1630);
        w.lose(1, 0, 0);
        dated(w, 1, 11, 1620, 1630);
        w.loseGore(1, 0);
        dated(w, 1, 31, 1600, 1630);
    }

    private static void yearsOfABareGlobe() {
        Globewright w = new Globewright();
        w.plate(100);
        w.sphere(500);
        w.globe(0);
        dated(w, 0, 1, 1600, 1600);
        w.pass(99);
        dated(w, 0, 100, 1600, 1699);
        w.pass(99);
        w.pass(99);
        w.pass(99);
        w.pass(3);
        dated(w, 0, 400, 1600, 1999);
    }

    private static void yearsFromThePlatesYear() {
        Globewright w = new Globewright();
        w.fact(0, 1500, -1);
        w.pass(30);
        w.plate(100);
        w.print(0);
        w.sphere(500);
        w.globe(0);
        w.paste(0, 0);
        dated(w, 0, 1, 1630, 1630);
        w.pass(5);
        dated(w, 0, 6, 1630, 1635);
        w.lose(0, 0, 0);
        dated(w, 0, 6, 1630, 1635);
        w.cut(0, 0, 0);
        w.pass(5);
        dated(w, 0, 11, 1630, 1640);
    }

    private static void dated(Globewright w, int globe, int years, int first, int last) {
        check.equal(w.years(globe), years);
        check.equal(w.yearOf(globe, true), first);
        check.equal(w.yearOf(globe, false), last);
    }

    private static void wrongGlobes() {
        Globewright w = new Globewright();
        check.fails(INDEX, () -> w.years(0));
        check.fails(INDEX, () -> w.yearOf(0, true));
        check.fails(INDEX, () -> w.isPirate(0, 0));
        w.plate(100);
        w.sphere(500);
        w.sphere(500);
        w.globe(0);
        w.globe(1);
        for (int wrong : new int[] {2, -1, 8, Integer.MIN_VALUE, Integer.MAX_VALUE}) {
            check.fails(INDEX, () -> w.years(wrong));
            check.fails(INDEX, () -> w.yearOf(wrong, true));
            check.fails(INDEX, () -> w.yearOf(wrong, false));
            check.fails(INDEX, () -> w.isPirate(wrong, 0));
            check.fails(INDEX, () -> w.isPirate(0, wrong));
            check.fails(INDEX, () -> w.isPirate(wrong, wrong));
        }
        check.fails(ARGUMENT, () -> w.isPirate(0, 0));
        check.fails(ARGUMENT, () -> w.isPirate(1, 1));
        check.no(w.isPirate(0, 1));
    }

    private static void isPirate() {
        Globewright w = traps();
        check.no(w.isPirate(0, 1));
        w.paste(0, 0);
        check.no(w.isPirate(0, 1));
        w.paste(1, 3);
        // Both show fact 0, which is no trap, and fact 3, which was false only later on.
        check.no(w.isPirate(0, 1));
        check.no(w.isPirate(1, 0));
        w.paste(2, 1);
        check.yes(w.isPirate(0, 2));
        check.yes(w.isPirate(2, 0));
        check.no(w.isPirate(1, 2));
        w.paste(3, 4);
        check.no(w.isPirate(0, 3));
        check.no(w.isPirate(2, 3));
        check.yes(w.isPirate(1, 3));
    }

    private static void isPirateWithLosses() {
        Globewright w = traps();
        w.paste(0, 0);
        w.paste(1, 1);
        w.paste(2, 2);
        check.yes(w.isPirate(0, 1));
        w.lose(1, 0, 0);
        check.yes(w.isPirate(0, 1));
        w.lose(1, 0, 1);
        check.no(w.isPirate(0, 1));
        check.no(w.isPirate(1, 0));
        check.yes(w.isPirate(0, 2));
        w.loseGore(2, 0);
        check.no(w.isPirate(0, 2));
        check.no(w.isPirate(2, 0));
    }

    private static void isPirateOnAnyGore() {
        Globewright w = new Globewright();
        w.plate(100);
        w.plate(100);
        w.fact(0, 1600, 1600);
        w.fact(0, 1400, 1400);
        for (int i = 0; i < 4; i++) {
            w.sphere(500);
            w.globe(i);
        }
        // Fact 0 stands on the first gore of one globe and on the last gore of another one.
        w.print(0);
        w.print(1);
        w.cut(0, 0, 0);
        w.print(0);
        w.hammer(0, 0);
        w.cut(1, 0, 50);
        w.print(1);
        w.hammer(1, 0);
        w.cut(1, 1, 50);
        w.print(1);
        w.paste(0, 2);
        w.paste(0, 1);
        check.no(w.isPirate(0, 1));
        w.paste(1, 0);
        w.paste(1, 3);
        check.no(w.isPirate(0, 2));
        check.yes(w.isPirate(0, 1));
        check.yes(w.isPirate(1, 0));
        w.paste(2, 4);
        check.no(w.isPirate(1, 2));
        check.no(w.isPirate(0, 2));
        check.no(w.isPirate(3, 2));
    }

    /**
     * Facts 1 and 2 are traps. Sheets 0 to 2 are of plate 0, with the facts 0, 1 and 3; sheets 3
     * and 4 of plate 1, with the facts 0, 2 and 3. There are four globes.
     */
    private static Globewright traps() {
        Globewright w = new Globewright();
        w.plate(100);
        w.plate(100);
        w.fact(0, 1500, -1);
        w.fact(0, 1500, 1500);
        w.fact(0, 1600, 1600);
        w.fact(0, 1500, 1601);
        int[][] shown = {{0, 1, 3}, {0, 2, 3}};
        for (int plate = 0; plate < 2; plate++) {
            for (int fact : shown[plate]) {
                w.cut(plate, fact, 0);
            }
        }
        for (int sheet = 0; sheet < 5; sheet++) {
            w.print(sheet / 3);
        }
        for (int globe = 0; globe < 4; globe++) {
            w.sphere(500);
            w.globe(globe);
        }
        return w;
    }
}
