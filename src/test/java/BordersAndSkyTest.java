import java.util.NoSuchElementException;

/** Promises 35 to 39: news, claims and colours of regions, and stars. */
public final class BordersAndSkyTest {
    private static final Class<IndexOutOfBoundsException> INDEX = IndexOutOfBoundsException.class;
    private static final Class<IllegalArgumentException> ARGUMENT = IllegalArgumentException.class;
    private static final Class<NoSuchElementException> NONE = NoSuchElementException.class;
    private static final Class<IllegalStateException> STATE = IllegalStateException.class;
    private static final int[] NO_YEARS = {1399, 2000, 0, -1, Integer.MIN_VALUE, Integer.MAX_VALUE};
    private static final int[] NO_DIGITS = {-1, 10, Integer.MIN_VALUE, Integer.MAX_VALUE};
    private static final Checks check = new Checks();

    public static void main(String[] args) {
        news();
        claim();
        colour();
        colourOfAClaim();
        star();
        starAt();
        check.end();
    }

    private static void news() {
        Globewright w = new Globewright();
        for (int wrong : NO_DIGITS) {
            check.fails(ARGUMENT, () -> w.news(wrong, 1600, 0));
            check.fails(ARGUMENT, () -> w.news(0, 1600, wrong));
        }
        for (int wrong : NO_YEARS) {
            check.fails(ARGUMENT, () -> w.news(0, wrong, 0));
        }
        for (int region = 0; region < 10; region += 9) {
            check.equal(w.news(region, 1600, 5), -1);
            check.equal(w.news(region, 1600, 0), 5);
            check.equal(w.news(region, 1600, 9), 0);
            check.equal(w.news(region, 1600, 9), 9);
            check.equal(w.news(region, 1601, 1), -1);
            check.equal(w.news(region, 1400, 2), -1);
            check.equal(w.news(region, 1999, 3), -1);
            check.equal(w.news(region, 1400, 4), 2);
            check.equal(w.news(region, 1999, 4), 3);
        }
        check.equal(w.news(4, 1600, 1), -1);
    }

    private static void claim() {
        Globewright w = new Globewright();
        for (int wrong : new int[] {-1, 4, Integer.MIN_VALUE, Integer.MAX_VALUE}) {
            check.fails(ARGUMENT, () -> w.claim(wrong, 0, 0));
        }
        for (int wrong : NO_DIGITS) {
            check.fails(ARGUMENT, () -> w.claim(0, wrong, 0));
        }
        for (int wrong : new int[] {-2, 10, Integer.MIN_VALUE, Integer.MAX_VALUE}) {
            check.fails(ARGUMENT, () -> w.claim(0, 0, wrong));
        }
        check.equal(w.claim(0, 0, -1), -1);
        check.equal(w.claim(0, 0, 0), -1);
        check.equal(w.claim(0, 0, 9), 0);
        check.equal(w.claim(3, 9, 4), -1);
        check.equal(w.claim(3, 0, 5), -1);
        check.equal(w.claim(0, 9, 6), -1);
        check.equal(w.claim(0, 0, -1), 9);
        check.equal(w.claim(0, 0, -1), -1);
        check.equal(w.claim(3, 9, -1), 4);
        check.equal(w.claim(3, 0, -1), 5);
        check.equal(w.claim(0, 9, -1), 6);
    }

    private static void colour() {
        Globewright w = new Globewright();
        for (int wrong : new int[] {-1, 4, Integer.MIN_VALUE, Integer.MAX_VALUE}) {
            check.fails(ARGUMENT, () -> w.colour(wrong, 0, 1600));
        }
        for (int wrong : NO_DIGITS) {
            check.fails(ARGUMENT, () -> w.colour(0, wrong, 1600));
        }
        for (int wrong : NO_YEARS) {
            check.fails(ARGUMENT, () -> w.colour(0, 0, wrong));
        }
        check.fails(NONE, () -> w.colour(0, 0, 1999));
        w.news(0, 1650, 0);
        w.news(0, 1600, 7);
        w.news(0, 1700, 9);
        for (int customer = 0; customer < 4; customer++) {
            int who = customer;
            check.fails(NONE, () -> w.colour(who, 0, 1599));
            check.equal(w.colour(customer, 0, 1600), 7);
            check.equal(w.colour(customer, 0, 1649), 7);
            check.equal(w.colour(customer, 0, 1650), 0);
            check.equal(w.colour(customer, 0, 1699), 0);
            check.equal(w.colour(customer, 0, 1700), 9);
            check.equal(w.colour(customer, 0, 1999), 9);
            check.fails(NONE, () -> w.colour(who, 1, 1999));
        }
        w.news(0, 1650, 3);
        check.equal(w.colour(0, 0, 1699), 3);
        w.news(9, 1400, 8);
        check.equal(w.colour(0, 9, 1400), 8);
        check.equal(w.colour(0, 9, 1999), 8);
        w.news(9, 1999, 1);
        check.equal(w.colour(0, 9, 1998), 8);
        check.equal(w.colour(0, 9, 1999), 1);
    }

    private static void colourOfAClaim() {
        Globewright w = new Globewright();
        w.claim(2, 5, 0);
        check.equal(w.colour(2, 5, 1400), 0);
        check.equal(w.colour(2, 5, 1999), 0);
        check.fails(NONE, () -> w.colour(1, 5, 1999));
        check.fails(NONE, () -> w.colour(2, 4, 1999));
        w.news(5, 1500, 6);
        check.equal(w.colour(2, 5, 1999), 0);
        check.equal(w.colour(1, 5, 1999), 6);
        w.claim(2, 5, 9);
        check.equal(w.colour(2, 5, 1400), 9);
        w.claim(2, 5, -1);
        check.equal(w.colour(2, 5, 1999), 6);
        check.fails(NONE, () -> w.colour(2, 5, 1499));
        check.fails(ARGUMENT, () -> w.colour(2, 5, 1399));
    }

    private static void star() {
        Globewright w = new Globewright();
        check.fails(INDEX, () -> w.starAt(0, 1600, false));
        for (int wrong : new int[] {-1, 3600, Integer.MIN_VALUE, Integer.MAX_VALUE}) {
            check.fails(ARGUMENT, () -> w.star(wrong, 0, 1600));
        }
        for (int wrong : new int[] {-901, 901, Integer.MIN_VALUE, Integer.MAX_VALUE}) {
            check.fails(ARGUMENT, () -> w.star(0, wrong, 1600));
        }
        for (int wrong : NO_YEARS) {
            check.fails(ARGUMENT, () -> w.star(0, 0, wrong));
        }
        int[][] right = {{0, 0, 1400}, {3599, 900, 1999}, {1800, -900, 1600}};
        for (int i = 0; i < 12; i++) {
            int[] row = right[i % 3];
            check.equal(w.star(row[0], row[1], row[2]), i);
        }
        check.fails(STATE, () -> w.star(0, 0, 1600));
        check.fails(ARGUMENT, () -> w.star(3600, 0, 1600));
        check.equal(w.starAt(11, 1600, false), 1800);
    }

    private static void starAt() {
        Globewright w = new Globewright();
        w.star(3590, 100, 1600);
        w.star(0, 0, 1700);
        w.star(3, 0, 1999);
        int[][] rows = {{0, 1600, 3590, 10}, {0, 1606, 3590, 10}, {0, 1607, 3591, 9}, {0, 1594, 3590, 10},
            {0, 1593, 3589, 11}, {0, 1669, 3599, 1}, {0, 1670, 0, 0}, {0, 1677, 1, 3599}, {0, 1770, 14, 3586},
            {0, 1400, 3562, 38}, {0, 1999, 47, 3553}, {1, 1700, 0, 0}, {1, 1694, 0, 0}, {1, 1693, 3599, 1},
            {1, 1706, 0, 0}, {1, 1707, 1, 3599}, {1, 1400, 3558, 42}, {2, 1400, 3518, 82}, {2, 1999, 3, 3597}};
        for (int[] row : rows) {
            check.equal(w.starAt(row[0], row[1], false), row[2]);
            check.equal(w.starAt(row[0], row[1], true), row[3]);
        }
        for (int wrong : Checks.NO_NUMBERS) {
            check.fails(INDEX, () -> w.starAt(wrong, 0, true));
        }
        check.fails(INDEX, () -> w.starAt(3, 1600, false));
        for (int wrong : NO_YEARS) {
            check.fails(ARGUMENT, () -> w.starAt(0, wrong, false));
        }
    }
}
