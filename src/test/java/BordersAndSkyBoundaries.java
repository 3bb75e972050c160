import java.util.NoSuchElementException;

/** Borders and stars: promises 35 to 39. */
final class BordersAndSkyBoundaries {
    private static final Class<NoSuchElementException> NONE = NoSuchElementException.class;
    private static final Boundaries.Scene NEW = Scenes.NEW;
    private static final Boundaries.Scene RICH = Scenes.RICH;
    private static final Boundaries.Scene ALL_TOLD = BordersAndSkyBoundaries::tellAll;
    private static final String OUT_OF_RANGE = "Throws `IllegalArgumentException` if a number is out of range";
    private static final String YEAR = "- `year`: the year, 1400 to 1999";

    private final Boundaries b;

    private BordersAndSkyBoundaries(Boundaries b) {
        this.b = b;
    }

    static void check(Boundaries b) {
        BordersAndSkyBoundaries part = new BordersAndSkyBoundaries(b);
        part.borderTerms();
        part.news();
        part.claim();
        part.colour();
        part.skyTerms();
        part.star();
        part.starAt();
    }

    /** News of region 3 from three years on. */
    private static void tellNews(Globewright w) {
        w.news(3, 1650, 0);
        w.news(3, 1600, 9);
        w.news(3, 1700, 4);
        w.news(2, 1640, 7);
        w.news(4, 1640, 8);
    }

    private void borderTerms() {
        b.term("There are the regions 0 to 9; news tell that from a year on a region is of an owner, 0 to 9, in place of "
                + "what was told for that very year.").by(() -> {
            b.takes(0, 9, NEW, (w, region) -> w.news(region, 1600, 0));
            b.takes(0, 9, NEW, (w, owner) -> w.news(0, 1600, owner));
            b.takes(0, 9, NEW, (w, region) -> w.claim(0, region, 0));
            b.takes(0, 9, ALL_TOLD, (w, region) -> w.colour(0, region, 1999));
            Boundaries.Scene again = w -> {
                tellNews(w);
                w.news(3, 1650, 5);
            };
            b.answers(9, again, w -> w.colour(0, 3, 1649));
            b.answers(5, again, w -> w.colour(0, 3, 1650));
            b.answers(5, again, w -> w.colour(0, 3, 1699));
            b.answers(4, again, w -> w.colour(0, 3, 1700));
        });
        b.term("A customer, 0 to 3, can claim a region for an owner, or give the claim up.").by(() -> {
            b.takes(0, 3, NEW, (w, customer) -> w.claim(customer, 0, 0));
            b.takes(0, 3, ALL_TOLD, (w, customer) -> w.colour(customer, 0, 1999));
            Boundaries.Scene claimed = w -> {
                tellNews(w);
                w.claim(3, 3, 6);
            };
            b.answers(6, claimed, w -> w.colour(3, 3, 1999));
            b.answers(4, claimed, w -> w.colour(2, 3, 1999));
            b.answers(4, claimed.then(w -> w.claim(3, 3, -1)), w -> w.colour(3, 3, 1999));
            b.answers(0, claimed.then(w -> w.claim(3, 3, 0)), w -> w.colour(3, 3, 1999));
        });
        b.term("The colour of a region for a customer in a year is the owner claimed, or else by the latest news of that "
                + "year or ahead of it.").by(() -> {
            Boundaries.Scene told = BordersAndSkyBoundaries::tellNews;
            b.refuses(NONE, told, w -> w.colour(0, 3, 1599));
            int[][] rows = {{1600, 9}, {1601, 9}, {1649, 9}, {1650, 0}, {1651, 0}, {1699, 0}, {1700, 4}, {1999, 4}};
            for (int[] row : rows) {
                b.answers(row[1], told, w -> w.colour(0, 3, row[0]));
                b.answers(1, told.then(w -> w.claim(0, 3, 1)), w -> w.colour(0, 3, row[0]));
            }
            // A claim counts in years of which there are no news.
            b.answers(1, told.then(w -> w.claim(0, 3, 1)), w -> w.colour(0, 3, 1400));
            b.answers(2, w -> w.news(0, 1400, 2), w -> w.colour(0, 0, 1400));
            b.answers(2, w -> w.news(0, 1400, 2), w -> w.colour(0, 0, 1999));
            b.answers(2, w -> w.news(0, 1999, 2), w -> w.colour(0, 0, 1999));
            b.refuses(NONE, w -> w.news(0, 1999, 2), w -> w.colour(0, 0, 1998));
        });
    }

    private static void tellAll(Globewright w) {
        for (int region = 0; region < 10; region++) {
            w.news(region, 1400, region);
        }
    }

    private void news() {
        b.promise(35, "Tells news of a region.", "Returns the owner told for this very year before, -1 for none.").by(() -> {
            b.answers(-1, NEW, w -> w.news(0, 1600, 5));
            b.answers(5, w -> w.news(0, 1600, 5), w -> w.news(0, 1600, 5));
            b.answers(0, w -> w.news(0, 1600, 0), w -> w.news(0, 1600, 5));
            b.answers(-1, w -> w.news(0, 1600, 5), w -> w.news(0, 1601, 6));
            b.answers(-1, w -> w.news(0, 1600, 5), w -> w.news(0, 1599, 6));
            b.answers(-1, w -> w.news(0, 1600, 5), w -> w.news(1, 1600, 6));
            // A claim is no news.
            b.answers(-1, w -> w.claim(0, 0, 5), w -> w.news(0, 1600, 6));
        });
        b.promise(35, YEAR).by(() -> {
            b.takes(1400, 1999, NEW, (w, year) -> w.news(9, year, 9));
            // News can be told of years to come.
            b.answers(-1, RICH, w -> w.news(0, 1999, 0));
            b.answers(5, RICH, w -> w.news(0, 1400, 0));
        });
        b.promise(35, OUT_OF_RANGE).by(() -> {
            b.takes(0, 9, RICH, (w, region) -> w.news(region, 1400, 0));
            b.takes(1400, 1999, RICH, (w, year) -> w.news(0, year, 0));
            b.takes(0, 9, RICH, (w, owner) -> w.news(3, 1600, owner));
        });
    }

    private void claim() {
        b.promise(36, "Claims a region.", "Returns the owner claimed before, -1 for none.").by(() -> {
            b.answers(-1, NEW, w -> w.claim(0, 0, 5));
            b.answers(5, w -> w.claim(0, 0, 5), w -> w.claim(0, 0, 6));
            b.answers(0, w -> w.claim(3, 9, 0), w -> w.claim(3, 9, 9));
            b.answers(-1, w -> w.claim(0, 0, 5), w -> w.claim(1, 0, 6));
            b.answers(-1, w -> w.claim(0, 0, 5), w -> w.claim(0, 1, 6));
            b.answers(-1, w -> w.news(0, 1600, 5), w -> w.claim(0, 0, 6));
        });
        b.promise(36, "- `owner`: the owner, -1 to give the claim up").by(() -> {
            b.takes(-1, 9, NEW, (w, owner) -> w.claim(0, 0, owner));
            b.takes(-1, 9, RICH, (w, owner) -> w.claim(1, 3, owner));
            b.answers(-1, NEW, w -> w.claim(0, 0, -1));
            b.answers(7, RICH, w -> w.claim(1, 3, -1));
            b.answers(-1, RICH.then(w -> w.claim(1, 3, -1)), w -> w.claim(1, 3, -1));
            b.refuses(NONE, NEW.then(w -> w.claim(0, 0, 0)).then(w -> w.claim(0, 0, -1)), w -> w.colour(0, 0, 1999));
        });
        b.promise(36, OUT_OF_RANGE).by(() -> {
            b.takes(0, 3, RICH, (w, customer) -> w.claim(customer, 3, 0));
            b.takes(0, 9, RICH, (w, region) -> w.claim(1, region, 0));
            b.takes(-1, 9, RICH, (w, owner) -> w.claim(3, 9, owner));
        });
    }

    private void colour() {
        b.promise(37, "Returns the colour of a region.", "Returns the owner.").by(() -> {
            b.answers(4, RICH, w -> w.colour(0, 3, 1600));
            b.answers(7, RICH, w -> w.colour(1, 3, 1600));
            b.answers(7, RICH, w -> w.colour(1, 3, 1400));
            b.leaves(RICH, w -> w.colour(1, 3, 1600));
        });
        b.promise(37, YEAR, OUT_OF_RANGE).by(() -> {
            b.takes(0, 3, ALL_TOLD, (w, customer) -> w.colour(customer, 9, 1999));
            b.takes(0, 9, ALL_TOLD, (w, region) -> w.colour(3, region, 1400));
            b.takes(1400, 1999, ALL_TOLD, (w, year) -> w.colour(3, 9, year));
            b.takes(1400, 1999, RICH, (w, year) -> w.colour(1, 3, year));
        });
        b.promise(37, "Throws `NoSuchElementException` if there is none").by(() -> {
            b.refuses(NONE, NEW, w -> w.colour(0, 0, 1999));
            b.refuses(NONE, RICH, w -> w.colour(0, 3, 1599));
            b.refuses(NONE, RICH, w -> w.colour(0, 4, 1999));
            b.refuses(NONE, RICH, w -> w.colour(1, 2, 1999));
            b.refuses(NONE, RICH.then(w -> w.claim(1, 3, -1)), w -> w.colour(1, 3, 1599));
            b.answers(4, RICH.then(w -> w.claim(1, 3, -1)), w -> w.colour(1, 3, 1600));
        });
    }

    private void skyTerms() {
        b.term("At most 12 stars are numbered from 0, each with a longitude and a latitude in a year, its epoch.").by(() -> {
            b.answers(0, NEW, w -> w.star(0, 0, 1600));
            b.answers(11, Scenes.stars(11), w -> w.star(0, 0, 1600));
            b.refuses(IllegalStateException.class, Scenes.stars(12), w -> w.star(0, 0, 1600));
            b.takes(0, 3599, NEW, (w, longitude) -> w.star(longitude, 0, 1600));
            b.takes(-900, 900, NEW, (w, latitude) -> w.star(0, latitude, 1600));
            b.takes(1400, 1999, NEW, (w, epoch) -> w.star(0, 0, epoch));
        });
        b.term("In another year the longitude is more by the years since divided by 7, cut toward 0, going round; the "
                + "latitude stays.").by(() -> {
            // Longitude, epoch, year and the longitude then.
            int[][] rows = {{100, 1600, 1600, 100}, {100, 1600, 1606, 100}, {100, 1600, 1607, 101}, {100, 1600, 1613, 101},
                {100, 1600, 1614, 102}, {100, 1600, 1594, 100}, {100, 1600, 1593, 99}, {100, 1600, 1587, 99},
                {100, 1600, 1586, 98}, {3599, 1600, 1606, 3599}, {3599, 1600, 1607, 0}, {3599, 1600, 1614, 1},
                {0, 1600, 1594, 0}, {0, 1600, 1593, 3599}, {1, 1600, 1593, 0}, {0, 1400, 1999, 85}, {0, 1999, 1400, 3515},
                {3599, 1400, 1999, 84}, {85, 1999, 1400, 0}, {3515, 1400, 1999, 0}};
            for (int[] row : rows) {
                for (int latitude : new int[] {-900, 0, 900}) {
                    b.answers(row[3], w -> w.star(row[0], latitude, row[1]), w -> w.starAt(0, row[2], false));
                }
            }
        });
        b.term("A star globe is seen from outside: a star stands on it at 3600 less its longitude, 0 staying 0.").by(() -> {
            int[][] rows = {{0, 0}, {1, 3599}, {2, 3598}, {1799, 1801}, {1800, 1800}, {1801, 1799}, {3599, 1}};
            for (int[] row : rows) {
                b.answers(row[1], w -> w.star(row[0], 0, 1600), w -> w.starAt(0, 1600, true));
            }
            // It is where the star has come to that is seen from outside.
            b.answers(0, w -> w.star(3599, 0, 1600), w -> w.starAt(0, 1607, true));
            b.answers(3599, w -> w.star(0, 0, 1600), w -> w.starAt(0, 1607, true));
            b.answers(1, w -> w.star(0, 0, 1600), w -> w.starAt(0, 1593, true));
        });
    }

    private void star() {
        b.promise(38, "Adds a star.", "Returns its number.").by(() -> {
            for (int i = 0; i < 12; i++) {
                b.answers(i, Scenes.stars(i), w -> w.star(3599, -900, 1999));
            }
        });
        b.promise(38, "- `epoch`: the year, 1400 to 1999").by(() -> {
            b.takes(1400, 1999, NEW, (w, epoch) -> w.star(0, 0, epoch));
            b.takes(1400, 1999, RICH, (w, epoch) -> w.star(3599, -900, epoch));
        });
        b.promise(38, OUT_OF_RANGE).by(() -> {
            b.takes(0, 3599, RICH, (w, longitude) -> w.star(longitude, 900, 1999));
            b.takes(-900, 900, RICH, (w, latitude) -> w.star(3599, latitude, 1400));
            b.takes(1400, 1999, Scenes.stars(11), (w, epoch) -> w.star(0, 0, epoch));
        });
        b.promise(38, "Throws `IllegalStateException` if there are 12").by(() -> {
            b.answers(11, Scenes.stars(11), w -> w.star(0, 0, 1400));
            b.refuses(IllegalStateException.class, Scenes.stars(12), w -> w.star(0, 0, 1400));
        });
    }

    private void starAt() {
        b.promise(39, "Returns the longitude of a star.", "Returns the longitude.").by(() -> {
            b.answers(3590, RICH, w -> w.starAt(0, 1600, false));
            b.answers(10, RICH, w -> w.starAt(0, 1600, true));
            b.answers(85, RICH, w -> w.starAt(1, 1999, false));
            b.leaves(RICH, w -> w.starAt(1, 1999, true));
        });
        b.promise(39, YEAR, OUT_OF_RANGE).by(() -> {
            b.takes(1400, 1999, RICH, (w, year) -> w.starAt(0, year, false));
            b.takes(1400, 1999, RICH, (w, year) -> w.starAt(1, year, true));
        });
        b.promise(39, "Throws `IndexOutOfBoundsException` if there is no such star").by(() -> {
            b.finds(0, NEW, (w, star) -> w.starAt(star, 1600, false));
            b.finds(Scenes.RICH_STARS, RICH, (w, star) -> w.starAt(star, 1600, true));
            b.finds(12, Scenes.stars(12), (w, star) -> w.starAt(star, 1999, false));
        });
    }
}
