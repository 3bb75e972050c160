import java.util.NoSuchElementException;

/** Sheets and globes: promises 18 to 25 and 48. */
final class GlobesBoundaries {
    private static final Class<UnsupportedOperationException> UNDOABLE = UnsupportedOperationException.class;
    private static final Class<IllegalStateException> STATE = IllegalStateException.class;
    private static final Class<NoSuchElementException> NONE = NoSuchElementException.class;
    private static final Boundaries.Scene NEW = Scenes.NEW;
    private static final Boundaries.Scene RICH = Scenes.RICH;
    private static final String NO_SUCH_GLOBE = "Throws `IndexOutOfBoundsException` if there is no such globe";

    private final Boundaries b;

    private GlobesBoundaries(Boundaries b) {
        this.b = b;
    }

    static void check(Boundaries b) {
        GlobesBoundaries part = new GlobesBoundaries(b);
        part.sheetTerms();
        part.print();
        part.isPrinted();
        part.growth();
        part.globeTerms();
        part.offTerm();
        part.globe();
        part.paste();
        part.gap();
        part.placeOf();
        part.offOf();
        part.meanGap();
    }

    /** A plate of this width with a fact at its printed place, pasted on a globe with this growth. */
    private static Boundaries.Scene pasted(int width, int growth, int circumference, int printedPlace) {
        return w -> {
            w.plate(width);
            w.fact(0, 1500, -1);
            w.cut(0, 0, width - 1 - printedPlace);
            w.sphere(circumference);
            w.globe(0);
            w.growth(growth);
            w.paste(0, w.print(0));
        };
    }

    private void sheetTerms() {
        b.term("At most 40 are numbered from 0, each with all that its plate shows as it is printed.").by(() -> {
            b.answers(0, Scenes.plates(1), w -> w.print(0));
            b.answers(39, Scenes.sheets(39), w -> w.print(5));
            b.refuses(STATE, Scenes.sheets(40), w -> w.print(5));
            Boundaries.Scene between = Scenes.plates(1).then(Scenes.facts(2)).then(w -> {
                w.cut(0, 0, 0);
                w.print(0);
                w.hammer(0, 0);
                w.cut(0, 1, 0);
            });
            b.answers(true, between, w -> w.isPrinted(0, 0));
            b.answers(false, between, w -> w.isPrinted(0, 1));
            b.answers(false, between.then(w -> w.print(0)), w -> w.isPrinted(1, 0));
            b.answers(true, between.then(w -> w.print(0)), w -> w.isPrinted(1, 1));
        });
        b.term("Paper grows as it is wet, 100 for each 1000, at first, across; the growth is told in thousandths, 0 to "
                + "200, and is that of the time at which a sheet is pasted.").by(() -> {
            b.answers(100, NEW, w -> w.growth(0));
            b.takes(0, 200, NEW, (w, thousandths) -> w.growth(thousandths));
            Boundaries.Scene dry = Scenes.globes(1).then(w -> {
                w.growth(0);
                w.print(0);
                w.growth(200);
            });
            b.answers(500 - 120, dry, w -> w.paste(0, 0));
            Boundaries.Scene wet = dry.then(w -> w.paste(0, 0)).then(w -> w.growth(0));
            b.answers(500 - 120, wet, w -> w.gap(0, 0));
            b.answers(500 - 110, Scenes.globes(1).then(w -> w.print(0)), w -> w.paste(0, 0));
        });
        b.term("The width of a sheet is that of its plate and as many thousandths of it as it grows, cut; a place on it "
                + "is the one at which it is printed, in mirror, and as many thousandths of that, cut.").by(() -> {
            // Width, growth and how wide the sheet is: just below a whole, and at it.
            int[][] widths = {{10, 0, 10}, {10, 99, 10}, {10, 100, 11}, {10, 199, 11}, {10, 200, 12}, {999, 1, 999},
                {999, 2, 1000}, {999, 199, 1197}, {999, 200, 1198}, {500, 1, 500}, {500, 2, 501}};
            for (int[] row : widths) {
                b.answers(9999 - row[2], pasted(row[0], row[1], 9999, 0), w -> w.gap(0, 0));
            }
            int[][] places = {{0, 200, 0}, {1, 200, 1}, {4, 200, 4}, {5, 199, 5}, {5, 200, 6}, {9, 111, 9}, {9, 112, 10},
                {998, 1, 998}, {998, 2, 999}, {998, 200, 1197}, {998, 0, 998}};
            for (int[] row : places) {
                b.answers(row[2], pasted(999, row[1], 9999, row[0]), w -> w.placeOf(0, 0));
            }
        });
    }

    private void print() {
        b.promise(18, "Prints a sheet.", "Returns its number.").by(() -> {
            for (int i = 0; i < 40; i += 13) {
                b.answers(i, Scenes.sheets(i), w -> w.print(5));
            }
        });
        b.promise(18, "Throws `IndexOutOfBoundsException` if there is no such plate").by(() -> {
            b.finds(0, NEW, (w, plate) -> w.print(plate));
            b.finds(Scenes.RICH_PLATES, RICH, (w, plate) -> w.print(plate));
        });
        b.promise(18, "Throws `UnsupportedOperationException` if the plate is worn").by(() -> {
            b.answers(7, Scenes.sheets(7), w -> w.print(0));
            b.refuses(UNDOABLE, Scenes.sheets(8), w -> w.print(0));
            b.refuses(UNDOABLE, RICH, w -> w.print(0));
            b.answers(Scenes.RICH_SHEETS, RICH, w -> w.print(1));
        });
        b.promise(18, "Throws `IllegalStateException` if there are 40").by(() -> {
            b.answers(39, Scenes.sheets(39), w -> w.print(4));
            b.refuses(STATE, Scenes.sheets(40), w -> w.print(5));
            b.refuses(STATE, Scenes.sheets(40).then(w -> w.sharpen(0)), w -> w.print(0));
        });
    }

    private void isPrinted() {
        b.promise(19, "Returns whether a sheet shows a fact.", "Returns whether it does.").by(() -> {
            boolean[][] due = {{true, true, false, false}, {false, true, false, true}, {false, true, false, false}};
            for (int i = 0; i < due.length; i++) {
                for (int j = 0; j < 4; j++) {
                    int sheet = i;
                    int fact = j;
                    b.answers(due[sheet][fact], RICH, w -> w.isPrinted(sheet, fact));
                }
            }
            Boundaries.Scene last = Scenes.sheets(39).then(Scenes.facts(24)).then(w -> {
                w.cut(5, 23, 0);
                w.print(5);
            });
            b.answers(true, last, w -> w.isPrinted(39, 23));
            b.answers(false, last, w -> w.isPrinted(39, 22));
            b.answers(false, last, w -> w.isPrinted(38, 23));
            b.leaves(RICH, w -> w.isPrinted(0, 1));
        });
        b.promise(19, "Throws `IndexOutOfBoundsException` if there is no such sheet or fact").by(() -> {
            b.finds(0, Scenes.plates(1).then(Scenes.facts(1)), (w, sheet) -> w.isPrinted(sheet, 0));
            b.finds(0, Scenes.sheets(1), (w, fact) -> w.isPrinted(0, fact));
            b.finds(Scenes.RICH_SHEETS, RICH, (w, sheet) -> w.isPrinted(sheet, 0));
            b.finds(Scenes.RICH_FACTS, RICH, (w, fact) -> w.isPrinted(9, fact));
        });
    }

    private void growth() {
        b.promise(20, "Tells how paper grows.", "Returns the growth before.").by(() -> {
            b.answers(100, NEW, w -> w.growth(200));
            b.answers(200, NEW.then(w -> w.growth(200)), w -> w.growth(0));
            b.answers(0, NEW.then(w -> w.growth(0)), w -> w.growth(0));
            b.answers(55, RICH, w -> w.growth(55));
        });
        b.promise(20, "- `thousandths`: 0 to 200", "Throws `IllegalArgumentException` if a number is out of range").by(() -> {
            b.takes(0, 200, NEW, (w, thousandths) -> w.growth(thousandths));
            b.takes(0, 200, RICH, (w, thousandths) -> w.growth(thousandths));
        });
    }

    private void globeTerms() {
        b.term("At most 8 are numbered from 0, each on a sphere that stops anywhere, and is on no other globe.").by(() -> {
            // Six spheres bear six globes at most, so that there are never 8.
            b.answers(0, Scenes.plates(1).then(Scenes.spheres(6)), w -> w.globe(5));
            b.answers(5, Scenes.globes(5).then(Scenes.spheres(1)), w -> w.globe(5));
            for (int i = 0; i < 6; i++) {
                int sphere = i;
                b.refuses(UNDOABLE, Scenes.globes(6), w -> w.globe(sphere));
            }
            Boundaries.Scene leaning = Scenes.globes(1).then(Scenes.spheres(2)).then(w -> w.load(1, 'u', 1));
            b.refuses(UNDOABLE, leaning, w -> w.globe(0));
            b.refuses(UNDOABLE, leaning, w -> w.globe(1));
            b.answers(1, leaning, w -> w.globe(2));
            b.answers(1, leaning.then(w -> w.balance(1)), w -> w.globe(1));
        });
        b.term("Sheets are pasted, each once, of each plate one at most on a globe.").by(() -> {
            Boundaries.Scene one = Scenes.plates(1).then(Scenes.globes(2)).then(w -> {
                w.print(0);
                w.print(0);
                w.print(1);
                w.paste(0, 0);
            });
            b.refuses(UNDOABLE, one, w -> w.paste(0, 0));
            b.refuses(UNDOABLE, one, w -> w.paste(1, 0));
            b.refuses(UNDOABLE, one, w -> w.paste(0, 1));
            b.answers(140, one, w -> w.paste(0, 2));
            b.answers(140, one, w -> w.paste(1, 1));
        });
        b.term("The gore of a plate begins at the number of the plate times the circumference, divided by how many "
                + "plates there are, cut; its room goes up to the beginning of the next one, or to the circumference.")
                .by(() -> {
            // Plates, circumference and all beginnings; the last one's room ends where the first one begins.
            int[][] rows = {{1, 100, 0}, {1, 9999, 0}, {2, 101, 0, 50}, {3, 100, 0, 33, 66}, {3, 101, 0, 33, 67},
                {6, 100, 0, 16, 33, 50, 66, 83}, {6, 101, 0, 16, 33, 50, 67, 84},
                {6, 9999, 0, 1666, 3333, 4999, 6666, 8332}, {4, 103, 0, 25, 51, 77}, {5, 104, 0, 20, 41, 62, 83}};
            for (int[] row : rows) {
                for (int i = 0; i < row[0]; i++) {
                    int plate = i;
                    int begin = row[2 + plate];
                    int end = plate + 1 < row[0] ? row[3 + plate] : row[1];
                    b.answers(end - begin - 10, gores(row[0], row[1], plate), w -> w.gap(0, plate));
                    b.answers(begin, gores(row[0], row[1], plate), w -> w.placeOf(0, 0));
                }
            }
        });
        b.term("The gap is the room less the width of the sheet, below 0 if it overlaps.").by(() -> {
            b.answers(1, pasted(100, 0, 101, 0), w -> w.gap(0, 0));
            b.answers(0, pasted(100, 0, 100, 0), w -> w.gap(0, 0));
            b.answers(-1, pasted(101, 0, 100, 0), w -> w.gap(0, 0));
            b.answers(0, pasted(100, 9, 100, 0), w -> w.gap(0, 0));
            b.answers(-1, pasted(100, 10, 100, 0), w -> w.gap(0, 0));
            b.answers(-1098, pasted(999, 200, 100, 0), w -> w.gap(0, 0));
            b.answers(9989, pasted(10, 0, 9999, 0), w -> w.gap(0, 0));
        });
    }

    /** Dry plates of the width 10, and a globe on which the sheet of one is pasted, with a fact at its left edge. */
    private static Boundaries.Scene gores(int plates, int circumference, int pasted) {
        return w -> {
            for (int plate = 0; plate < plates; plate++) {
                w.plate(10);
            }
            w.growth(0);
            w.fact(0, 1500, -1);
            w.cut(pasted, 0, 9);
            w.sphere(circumference);
            w.globe(0);
            w.paste(0, w.print(pasted));
        };
    }

    private void offTerm() {
        b.term("A fact is on a globe where the gore begins, plus its place on the sheet; it is off by that, less its true "
                + "longitude times the circumference divided by 3600, cut, the circumference being added or taken away "
                + "till twice that is not above the circumference, and above what it is below 0.").by(() -> {
            // Circumference, true longitude, place and how far off that is: half way round and beside that.
            int[][] halves = {{1000, 0, 499, 499}, {1000, 0, 500, 500}, {1000, 0, 501, -499}, {1000, 1800, 0, 500},
                {1000, 1800, 1, -499}, {1000, 1796, 0, -498}, {1000, 1804, 0, 499}, {101, 0, 50, 50}, {101, 0, 51, -50},
                {101, 1800, 0, -50}, {101, 1836, 0, 50}, {100, 1800, 0, 50}, {100, 1800, 998, 48}};
            int[][] others = {{1000, 0, 0, 0}, {1000, 3, 0, 0}, {1000, 4, 0, -1}, {1000, 4, 1, 0}, {1000, 3599, 0, 1},
                {1000, 3599, 998, -1}, {9999, 3599, 5, 8}, {9999, 1234, 998, -2429}, {100, 0, 998, -2},
                {100, 3599, 998, -1}, {100, 1000, 149, 22}, {100, 35, 0, 0}, {100, 36, 0, -1}};
            for (int[][] rows : new int[][][] {halves, others}) {
                for (int[] row : rows) {
                    b.answers(row[3], standing(row[0], row[1], row[2]), w -> w.offOf(0, 0));
                    b.answers(row[2], standing(row[0], row[1], row[2]), w -> w.placeOf(0, 0));
                }
            }
            Boundaries.Scene second = Scenes.plates(1).then(Scenes.globes(1)).then(w -> {
                w.fact(1800, 1500, -1);
                w.cut(1, 0, 60);
                w.paste(0, w.print(1));
            });
            b.answers(250 + 39 + 3, second, w -> w.placeOf(0, 0));
            b.answers(42, second, w -> w.offOf(0, 0));
        });
    }

    /** A globe on which a fact with a true longitude stands at this place, on dry paper. */
    private static Boundaries.Scene standing(int circumference, int longitude, int place) {
        return w -> {
            w.plate(999);
            w.sphere(circumference);
            w.fact(longitude, 1500, -1);
            w.cut(0, 0, 998 - place);
            w.growth(0);
            w.globe(0);
            w.paste(0, w.print(0));
        };
    }

    private void globe() {
        b.promise(21, "Begins a globe.", "Returns its number.").by(() -> {
            for (int i = 0; i < 6; i++) {
                int sphere = i;
                b.answers(i, Scenes.globes(i).then(w -> w.sphere(500)), w -> w.globe(sphere));
            }
        });
        b.promise(21, "Throws `IndexOutOfBoundsException` if there is no such sphere").by(() -> {
            b.finds(0, Scenes.plates(1), (w, sphere) -> w.globe(sphere));
            b.finds(Scenes.RICH_SPHERES, RICH, (w, sphere) -> w.globe(sphere));
            b.finds(6, Scenes.plates(1).then(Scenes.spheres(6)), (w, sphere) -> w.globe(sphere));
        });
        b.promise(21, "Throws `UnsupportedOperationException` if the sphere is on a globe, or does not stop anywhere, or "
                + "there is no plate").by(() -> {
            b.refuses(UNDOABLE, RICH, w -> w.globe(0));
            b.refuses(UNDOABLE, RICH, w -> w.globe(3));
            b.refuses(UNDOABLE, RICH, w -> w.globe(2));
            b.answers(Scenes.RICH_GLOBES, RICH.then(w -> w.balance(2)), w -> w.globe(2));
            b.refuses(UNDOABLE, Scenes.spheres(1), w -> w.globe(0));
            b.answers(0, Scenes.spheres(1).then(Scenes.plates(1)), w -> w.globe(0));
        });
        b.promise(21, "Throws `IllegalStateException` if there are 8").by(() -> {
            // It can't come: there are 6 spheres at most, and with 6 globes none of them is free.
            b.answers(5, Scenes.globes(5).then(w -> w.sphere(500)), w -> w.globe(5));
            b.refuses(STATE, Scenes.globes(6), w -> w.sphere(500));
            b.refuses(UNDOABLE, Scenes.globes(6), w -> w.globe(5));
        });
    }

    private void paste() {
        b.promise(22, "Pastes a sheet.", "Returns the gap.").by(() -> {
            Boundaries.Scene one = Scenes.globes(1).then(w -> w.print(0));
            b.answers(390, one, w -> w.paste(0, 0));
            b.answers(390, one.then(w -> w.paste(0, 0)), w -> w.gap(0, 0));
        });
        b.promise(22, "Throws `IndexOutOfBoundsException` if there is no such globe or sheet").by(() -> {
            b.finds(0, Scenes.sheets(1), (w, globe) -> w.paste(globe, 0));
            b.finds(0, Scenes.globes(1), (w, sheet) -> w.paste(0, sheet));
            b.finds(Scenes.RICH_GLOBES, RICH, (w, globe) -> w.paste(globe, 4));
            b.finds(Scenes.RICH_SHEETS, RICH, (w, sheet) -> w.paste(1, sheet));
        });
        b.promise(22, "Throws `UnsupportedOperationException` if the sheet is pasted, or the globe has one of this plate, "
                + "or it was delivered").by(() -> {
            b.refuses(UNDOABLE, RICH, w -> w.paste(1, 9));
            b.refuses(UNDOABLE, RICH, w -> w.paste(1, 1));
            b.refuses(UNDOABLE, RICH, w -> w.paste(1, 4));
            b.refuses(UNDOABLE, RICH, w -> w.paste(0, 4));
            b.answers(700 / 2 - 63, RICH.then(w -> w.print(1)), w -> w.paste(1, 10));
            // The gore of plate 1 is lost there, but still pasted.
            b.refuses(UNDOABLE, RICH.then(w -> w.print(1)), w -> w.paste(0, 10));
            // A globe can be delivered with all its gores alone, so that there is room on none.
            b.refuses(UNDOABLE, RICH, w -> w.paste(2, 4));
            b.refuses(UNDOABLE, RICH.then(w -> w.loseGore(2, 0)), w -> w.paste(2, 4));
        });
    }

    private void gap() {
        b.promise(23, "Returns the gap of a gore.", "Returns the gap.").by(() -> {
            b.answers(500 - 110, RICH, w -> w.gap(0, 0));
            b.answers(500 - 63, RICH, w -> w.gap(0, 1));
            b.answers(350 - 105, RICH, w -> w.gap(1, 0));
            b.answers(4999 - 105, RICH, w -> w.gap(2, 0));
            b.answers(5000 - 63, RICH, w -> w.gap(2, 1));
            b.leaves(RICH, w -> w.gap(0, 0));
        });
        b.promise(23, NO_SUCH_GLOBE + " or plate").by(() -> {
            b.finds(0, Scenes.plates(1), (w, globe) -> w.gap(globe, 0));
            b.finds(Scenes.RICH_GLOBES, RICH, (w, globe) -> w.gap(globe, 0));
            b.finds(Scenes.RICH_PLATES, RICH, (w, plate) -> w.gap(0, plate));
            b.finds(6, Scenes.plates(5).then(Scenes.globes(1)), (w, plate) -> w.gap(0, plate));
        });
        b.promise(23, "Throws `NoSuchElementException` if no sheet is pasted there").by(() -> {
            b.refuses(NONE, RICH, w -> w.gap(1, 1));
            b.answers(350 - 63, RICH.then(w -> w.paste(1, w.print(1))), w -> w.gap(1, 1));
            b.refuses(NONE, Scenes.globes(1), w -> w.gap(0, 0));
            // A gore that is lost was pasted there.
            b.answers(4999 - 105, RICH.then(w -> w.loseGore(2, 0)), w -> w.gap(2, 0));
        });
    }

    /** A fact on two gores of a globe of 500, at 109 and 250 + 79. */
    private static Boundaries.Scene twice() {
        return Scenes.plates(1).then(Scenes.globes(1)).then(Scenes.facts(2)).then(w -> {
            w.cut(0, 0, 0);
            w.cut(1, 0, 27);
            w.paste(0, w.print(1));
            w.paste(0, w.print(0));
        });
    }

    private void placeOf() {
        b.promise(24, "Returns where a fact is on a globe.",
                "Returns the place from the beginning, on the first gore that shows it, lost ones left out.").by(() -> {
            b.answers(108, twice(), w -> w.placeOf(0, 0));
            b.answers(250 + 79, twice().then(w -> w.lose(0, 0, 0)), w -> w.placeOf(0, 0));
            b.answers(250 + 79, twice().then(w -> w.loseGore(0, 0)), w -> w.placeOf(0, 0));
            b.answers(108, twice().then(w -> w.loseGore(0, 1)), w -> w.placeOf(0, 0));
            b.answers(108, twice().then(w -> w.lose(0, 0, 1)), w -> w.placeOf(0, 0));
            // What is done with the plate behind the printing does not move what was printed.
            b.answers(108, twice().then(w -> w.hammer(0, 0)), w -> w.placeOf(0, 0));
            b.answers(108, twice().then(w -> w.hammer(0, 0)).then(w -> w.cut(0, 0, 50)), w -> w.placeOf(0, 0));
            b.leaves(RICH, w -> w.placeOf(0, 1));
        });
        b.promise(24, NO_SUCH_GLOBE + " or fact").by(() -> {
            b.finds(0, Scenes.facts(1), (w, globe) -> w.placeOf(globe, 0));
            b.finds(0, Scenes.globes(1), (w, fact) -> w.placeOf(0, fact));
            b.finds(Scenes.RICH_GLOBES, RICH, (w, globe) -> w.placeOf(globe, 1));
            b.finds(Scenes.RICH_FACTS, RICH, (w, fact) -> w.placeOf(0, fact));
        });
        b.promise(24, "Throws `NoSuchElementException` if it is on none, or lost").by(() -> {
            b.refuses(NONE, twice(), w -> w.placeOf(0, 1));
            b.refuses(NONE, twice().then(w -> w.cut(0, 1, 0)), w -> w.placeOf(0, 1));
            b.refuses(NONE, twice().then(w -> w.lose(0, 0, 0)).then(w -> w.lose(0, 1, 0)), w -> w.placeOf(0, 0));
            b.refuses(NONE, twice().then(w -> w.lose(0, 0, 0)).then(w -> w.loseGore(0, 1)), w -> w.placeOf(0, 0));
            b.refuses(NONE, twice().then(w -> w.loseGore(0, 0)).then(w -> w.loseGore(0, 1)), w -> w.placeOf(0, 0));
            b.refuses(NONE, RICH, w -> w.placeOf(0, 0));
            b.refuses(NONE, RICH, w -> w.placeOf(0, 3));
            b.answers(79 + 7, RICH, w -> w.placeOf(0, 1));
        });
    }

    private void offOf() {
        b.promise(25, "Returns how far a fact is off on a globe.", "Returns how far.").by(() -> {
            b.answers(108, twice(), w -> w.offOf(0, 0));
            b.answers(-171, twice().then(w -> w.lose(0, 0, 0)), w -> w.offOf(0, 0));
            b.answers(-171, twice().then(w -> w.loseGore(0, 0)), w -> w.offOf(0, 0));
            b.leaves(RICH, w -> w.offOf(0, 1));
        });
        b.promise(25, NO_SUCH_GLOBE + " or fact").by(() -> {
            b.finds(0, Scenes.facts(1), (w, globe) -> w.offOf(globe, 0));
            b.finds(0, Scenes.globes(1), (w, fact) -> w.offOf(0, fact));
            b.finds(Scenes.RICH_GLOBES, RICH, (w, globe) -> w.offOf(globe, 1));
            b.finds(Scenes.RICH_FACTS, RICH, (w, fact) -> w.offOf(0, fact));
        });
        b.promise(25, "Throws `NoSuchElementException` if it is on no gore, or lost").by(() -> {
            b.refuses(NONE, twice(), w -> w.offOf(0, 1));
            b.refuses(NONE, twice().then(w -> w.cut(0, 1, 0)), w -> w.offOf(0, 1));
            b.refuses(NONE, twice().then(w -> w.lose(0, 0, 0)).then(w -> w.lose(0, 1, 0)), w -> w.offOf(0, 0));
            b.refuses(NONE, twice().then(w -> w.lose(0, 0, 0)).then(w -> w.loseGore(0, 1)), w -> w.offOf(0, 0));
            b.refuses(NONE, twice().then(w -> w.loseGore(0, 0)).then(w -> w.loseGore(0, 1)), w -> w.offOf(0, 0));
            b.refuses(NONE, RICH, w -> w.offOf(0, 0));
            b.refuses(NONE, RICH, w -> w.offOf(0, 3));
            b.answers(86 - 250, RICH, w -> w.offOf(0, 1));
        });
    }

    private void meanGap() {
        b.promise(48, "Returns the mean gap of all gores that are pasted.",
                "Returns the sum divided by their number, both converted to double.").by(() -> {
            b.answers(390.0, Scenes.globes(1).then(w -> w.paste(0, w.print(0))), w -> w.meanGap());
            double sum = 390 + 437 + 245 + 4894 + 4937;
            b.answers(sum / 5.0, RICH, w -> w.meanGap());
            b.answers(sum / 5.0, RICH.then(w -> w.loseGore(2, 0)), w -> w.meanGap());
            b.answers((sum + 287) / 6.0, RICH.then(w -> w.paste(1, w.print(1))), w -> w.meanGap());
            b.answers(0.0, pasted(100, 0, 100, 0), w -> w.meanGap());
            b.answers(-1098.0, pasted(999, 200, 100, 0), w -> w.meanGap());
            b.leaves(RICH, w -> w.meanGap());
        });
        b.promise(48, "Throws `ArithmeticException` if there are none").by(() -> {
            b.refuses(ArithmeticException.class, NEW, w -> w.meanGap());
            b.refuses(ArithmeticException.class, Scenes.globes(6).then(w -> w.print(0)), w -> w.meanGap());
        });
    }
}
