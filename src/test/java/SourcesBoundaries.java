import java.util.NoSuchElementException;

/** Isles and sources: promises 31 to 34. */
final class SourcesBoundaries {
    private static final Class<IllegalStateException> STATE = IllegalStateException.class;
    private static final Class<NoSuchElementException> NONE = NoSuchElementException.class;
    private static final Boundaries.Scene NEW = Scenes.NEW;
    private static final Boundaries.Scene RICH = Scenes.RICH;
    private static final String NO_SUCH_ISLE = "Throws `IndexOutOfBoundsException` if there is no such isle";

    private final Boundaries b;

    private SourcesBoundaries(Boundaries b) {
        this.b = b;
    }

    static void check(Boundaries b) {
        SourcesBoundaries part = new SourcesBoundaries(b);
        part.sourceTerms();
        part.agreementTerms();
        part.isle();
        part.source();
        part.agreeing();
        part.best();
    }

    /** An isle of which these sources tell, each a longitude and an error. */
    private static Boundaries.Scene told(int... numbers) {
        return Scenes.isles(1).then(w -> {
            for (int i = 0; i + 1 < numbers.length; i += 2) {
                w.source(0, numbers[i], numbers[i + 1]);
            }
        });
    }

    /** In this scene so many sources agree on isle 0, and this is its best longitude. */
    private void isAgreed(int agreeing, int best, Boundaries.Scene scene) {
        b.answers(agreeing, scene, w -> w.agreeing(0));
        b.answers(best, scene, w -> w.best(0));
    }

    private void sourceTerms() {
        b.term("At most 6 isles are numbered from 0; at most 30 sources tell for an isle a longitude and an error, 0 to "
                + "900: it is at most so far off, either way, going round.").by(() -> {
            b.answers(0, NEW, w -> w.isle());
            b.answers(5, Scenes.isles(5), w -> w.isle());
            b.refuses(STATE, Scenes.isles(6), w -> w.isle());
            b.answers(15, Scenes.sources(29), w -> w.source(1, 0, 0));
            b.refuses(STATE, Scenes.sources(30), w -> w.source(1, 0, 0));
            b.takes(0, 900, Scenes.isles(1), (w, error) -> w.source(0, 0, error));
            // A second source without error tells whether the first one allows just this longitude.
            int[][] rows = {{500, 0, 500, 2}, {500, 0, 501, 1}, {500, 0, 499, 1}, {500, 20, 520, 2}, {500, 20, 521, 1},
                {500, 20, 480, 2}, {500, 20, 479, 1}, {10, 20, 3590, 2}, {10, 20, 3589, 1}, {3590, 20, 10, 2},
                {3590, 20, 11, 1}, {0, 900, 900, 2}, {0, 900, 901, 1}, {0, 900, 2700, 2}, {0, 900, 2699, 1},
                {3599, 1, 0, 2}, {3599, 1, 1, 1}, {0, 1, 3599, 2}, {0, 1, 3598, 1}, {1800, 900, 2700, 2},
                {1800, 900, 2701, 1}, {1800, 900, 0, 1}};
            for (int[] row : rows) {
                b.answers(row[3], told(row[0], row[1], row[2], 0), w -> w.agreeing(0));
                b.answers(row[3], told(row[2], 0, row[0], row[1]), w -> w.agreeing(0));
            }
        });
    }

    private void agreementTerms() {
        b.term("Most agree on the longitudes that as many sources of the isle as possible allow; the best longitude is the "
                + "least of these.").by(() -> {
            isAgreed(1, 480, told(500, 20));
            isAgreed(1, 0, told(20, 20));
            isAgreed(1, 1, told(21, 20));
            // From 3599 on, round to 39: 0 is the least of them.
            isAgreed(1, 0, told(19, 20));
            isAgreed(1, 3599, told(3599, 0));
            isAgreed(1, 0, told(3599, 1));
            isAgreed(1, 0, told(0, 0));
            isAgreed(2, 0, told(10, 20, 3590, 15));
            isAgreed(2, 3595, told(0, 5, 3590, 5));
            isAgreed(2, 0, told(0, 5, 3590, 10));
            isAgreed(2, 520, told(500, 20, 530, 10));
            isAgreed(1, 480, told(500, 20, 531, 10));
            // Two pairs agree as much: the lower longitude is the better one, whichever was told first.
            isAgreed(2, 100, told(100, 0, 3000, 0, 3000, 0, 100, 0));
            isAgreed(2, 100, told(3000, 0, 3000, 0, 100, 0, 100, 0));
            isAgreed(3, 3000, told(100, 0, 3000, 0, 3000, 0, 100, 0, 3000, 0));
            // Both allow 900 and 2700, on either side.
            isAgreed(2, 900, told(0, 900, 1800, 900));
            isAgreed(3, 2700, told(0, 900, 1800, 900, 2700, 0));
            // Sources of another isle count nothing.
            Boundaries.Scene other = Scenes.isles(2).then(w -> {
                w.source(0, 100, 0);
                w.source(1, 50, 0);
                w.source(1, 50, 0);
            });
            isAgreed(1, 100, other);
        });
    }

    private void isle() {
        b.promise(31, "Adds an isle.", "Returns its number.").by(() -> {
            for (int i = 0; i < 6; i++) {
                b.answers(i, Scenes.isles(i), w -> w.isle());
            }
        });
        b.promise(31, "Throws `IllegalStateException` if there are 6").by(() -> {
            b.answers(5, Scenes.isles(5), w -> w.isle());
            b.refuses(STATE, Scenes.isles(6), w -> w.isle());
            b.refuses(STATE, Scenes.isles(6).then(w -> w.source(5, 0, 0)), w -> w.isle());
        });
    }

    private void source() {
        b.promise(32, "Adds a source.", "Returns how many sources the isle has.").by(() -> {
            b.answers(1, Scenes.isles(2), w -> w.source(1, 0, 0));
            b.answers(1, told(1, 2, 3, 4).then(w -> w.isle()), w -> w.source(1, 0, 0));
            b.answers(3, told(1, 2, 1, 2), w -> w.source(0, 1, 2));
            b.answers(30, told(new int[58]), w -> w.source(0, 1, 2));
        });
        b.promise(32, NO_SUCH_ISLE).by(() -> {
            b.finds(0, NEW, (w, isle) -> w.source(isle, 0, 0));
            b.finds(Scenes.RICH_ISLES, RICH, (w, isle) -> w.source(isle, 0, 0));
            b.finds(6, Scenes.isles(6), (w, isle) -> w.source(isle, 0, 0));
        });
        b.promise(32, "Throws `IllegalArgumentException` if a number is out of range").by(() -> {
            b.takes(0, 3599, RICH, (w, longitude) -> w.source(0, longitude, 900));
            b.takes(0, 900, RICH, (w, error) -> w.source(0, 3599, error));
        });
        b.promise(32, "Throws `IllegalStateException` if there are 30, of all isles").by(() -> {
            b.answers(15, Scenes.sources(29), w -> w.source(1, 0, 0));
            b.answers(16, Scenes.sources(29), w -> w.source(0, 0, 0));
            b.refuses(STATE, Scenes.sources(30), w -> w.source(0, 0, 0));
            b.refuses(STATE, Scenes.sources(30), w -> w.source(1, 3599, 900));
            // An isle without a source has no room left either.
            b.refuses(STATE, Scenes.sources(30).then(w -> w.isle()), w -> w.source(2, 0, 0));
            b.refuses(STATE, told(new int[60]), w -> w.source(0, 0, 0));
        });
    }

    private void agreeing() {
        b.promise(33, "Returns how many sources agree most on an isle.", "Returns how many.").by(() -> {
            b.answers(0, Scenes.isles(1), w -> w.agreeing(0));
            b.answers(0, Scenes.sources(4).then(w -> w.isle()), w -> w.agreeing(2));
            b.answers(1, told(0, 0), w -> w.agreeing(0));
            b.answers(2, RICH, w -> w.agreeing(0));
            b.answers(30, told(new int[60]), w -> w.agreeing(0));
            b.leaves(RICH, w -> w.agreeing(0));
        });
        b.promise(33, NO_SUCH_ISLE).by(() -> {
            b.finds(0, NEW, (w, isle) -> w.agreeing(isle));
            b.finds(Scenes.RICH_ISLES, RICH, (w, isle) -> w.agreeing(isle));
        });
    }

    private void best() {
        b.promise(34, "Returns the best longitude of an isle.", "Returns the longitude.").by(() -> {
            b.answers(0, RICH, w -> w.best(0));
            b.answers(3599, told(3599, 0), w -> w.best(0));
            b.leaves(RICH, w -> w.best(0));
        });
        b.promise(34, NO_SUCH_ISLE).by(() -> {
            b.finds(0, NEW, (w, isle) -> w.best(isle));
            b.finds(Scenes.RICH_ISLES, RICH, (w, isle) -> w.best(isle));
        });
        b.promise(34, "Throws `NoSuchElementException` if it has no source").by(() -> {
            b.refuses(NONE, Scenes.isles(1), w -> w.best(0));
            b.refuses(NONE, RICH, w -> w.best(1));
            b.answers(7, RICH.then(w -> w.source(1, 7, 0)), w -> w.best(1));
        });
    }
}
