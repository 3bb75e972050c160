/** Years, facts and plates: promises 10 to 17. */
final class PlatesBoundaries {
    private static final Class<IllegalArgumentException> ARGUMENT = IllegalArgumentException.class;
    private static final Class<UnsupportedOperationException> UNDOABLE = UnsupportedOperationException.class;
    private static final Class<IllegalStateException> STATE = IllegalStateException.class;
    private static final Boundaries.Scene NEW = Scenes.NEW;
    private static final String OUT_OF_RANGE = "Throws `IllegalArgumentException` if a number is out of range";
    private static final String NO_SUCH_PLATE = "Throws `IndexOutOfBoundsException` if there is no such plate";
    private static final String NO_SUCH_PLATE_OR_FACT = NO_SUCH_PLATE + " or fact";

    private final Boundaries b;

    private PlatesBoundaries(Boundaries b) {
        this.b = b;
    }

    static void check(Boundaries b) {
        PlatesBoundaries part = new PlatesBoundaries(b);
        part.years();
        part.factTerms();
        part.fact();
        part.plateTerms();
        part.changeTerms();
        part.plate();
        part.cut();
        part.hammer();
        part.shows();
        part.states();
        part.sharpen();
    }

    private void years() {
        b.term("The year is 1600 at first, and goes on, up to 1999.").by(() -> {
            b.answers(1601, NEW, w -> w.pass(1));
            b.answers(1999, Scenes.year(1998), w -> w.pass(1));
            b.refuses(STATE, Scenes.year(1999), w -> w.pass(1));
            // What is of this year alone is from 1600 on a new object.
            b.answers(1600, Scenes.globes(1), w -> w.yearOf(0, false));
        });
        b.promise(10, "Lets years go by.", "Returns the year then.").by(() -> {
            b.answers(1601, NEW, w -> w.pass(1));
            b.answers(1699, NEW, w -> w.pass(99));
            b.answers(1700, Scenes.year(1699), w -> w.pass(1));
            b.answers(1999, Scenes.year(1900), w -> w.pass(99));
        });
        b.promise(10, "- `years`: how many, 1 to 99", OUT_OF_RANGE).by(() -> {
            b.takes(1, 99, NEW, (w, years) -> w.pass(years));
            b.takes(1, 99, Scenes.year(1900), (w, years) -> w.pass(years));
        });
        b.promise(10, "Throws `IllegalStateException` if it would be behind 1999").by(() -> {
            b.answers(1999, Scenes.year(1901), w -> w.pass(98));
            b.refuses(STATE, Scenes.year(1901), w -> w.pass(99));
            b.answers(1999, Scenes.year(1998), w -> w.pass(1));
            b.refuses(STATE, Scenes.year(1998), w -> w.pass(2));
            b.refuses(STATE, Scenes.year(1999), w -> w.pass(1));
            b.refuses(STATE, Scenes.year(1999), w -> w.pass(99));
        });
    }

    /** A plate and this one fact, which is tried to be cut in a year. */
    private void isCut(boolean isDue, int known, int falseFrom, int year) {
        Boundaries.Scene scene = Scenes.plates(1).then(w -> w.fact(0, known, falseFrom)).then(Scenes.year(year));
        if (isDue) {
            b.answers(1, scene, w -> w.cut(0, 0, 0));
        } else {
            b.refuses(UNDOABLE, scene, w -> w.cut(0, 0, 0));
        }
    }

    private void factTerms() {
        b.term("At most 24 are numbered from 0, each with a true longitude and a year from which it is known, 1400 to "
                + "1999, and a year from which it is known to be false, not ahead of that, or none.").by(() -> {
            b.answers(0, NEW, w -> w.fact(0, 1500, -1));
            b.answers(23, Scenes.facts(23), w -> w.fact(0, 1500, -1));
            b.refuses(STATE, Scenes.facts(24), w -> w.fact(0, 1500, -1));
            b.takes(1400, 1999, NEW, (w, known) -> w.fact(0, known, -1));
            for (int known : new int[] {1400, 1500, 1600, 1998, 1999}) {
                b.answers(0, NEW, w -> w.fact(0, known, known));
                b.refuses(ARGUMENT, NEW, w -> w.fact(0, known, known - 1));
                b.answers(0, NEW, w -> w.fact(0, known, -1));
            }
        });
        b.term("A fact that is false from the very year on from which it is known is a trap.").by(() -> {
            b.answers(true, bothShow(1600, 1600), w -> w.isPirate(0, 1));
            b.answers(true, bothShow(1400, 1400), w -> w.isPirate(0, 1));
            b.answers(false, bothShow(1600, 1601), w -> w.isPirate(0, 1));
            b.answers(false, bothShow(1599, 1601), w -> w.isPirate(0, 1));
            b.answers(false, bothShow(1600, 1999), w -> w.isPirate(0, 1));
            b.answers(false, bothShow(1600, -1), w -> w.isPirate(0, 1));
        });
        b.term("A fact can be cut in its time alone: from the year from which it is known, a trap too, but as long as it "
                + "is not known to be false, but for traps.").by(() -> {
            isCut(false, 1611, -1, 1610);
            isCut(true, 1610, -1, 1610);
            isCut(true, 1609, -1, 1610);
            isCut(true, 1400, -1, 1999);
            isCut(false, 1611, 1611, 1610);
            isCut(true, 1610, 1610, 1610);
            isCut(true, 1609, 1609, 1610);
            isCut(true, 1400, 1400, 1999);
            isCut(false, 1611, 1612, 1610);
            isCut(true, 1610, 1611, 1610);
            isCut(false, 1609, 1610, 1610);
            isCut(true, 1400, 1611, 1610);
            isCut(false, 1400, 1610, 1610);
            isCut(false, 1400, 1609, 1610);
            isCut(false, 1400, 1401, 1600);
            isCut(true, 1998, 1999, 1998);
            isCut(false, 1998, 1999, 1999);
            isCut(true, 1999, 1999, 1999);
        });
    }

    /** Two globes on both of which a fact stands that is known and false from these years on. */
    private static Boundaries.Scene bothShow(int known, int falseFrom) {
        return Scenes.globes(2).then(w -> {
            w.fact(0, known, falseFrom);
            w.cut(0, 0, 0);
            w.paste(0, w.print(0));
            w.paste(1, w.print(0));
        });
    }

    private void fact() {
        b.promise(11, "Adds a fact.", "Returns its number.").by(() -> {
            for (int i = 0; i < 24; i++) {
                b.answers(i, Scenes.facts(i), w -> w.fact(3599, 1999, 1999));
            }
        });
        b.promise(11, "- `falseFrom`: the year from which it is known to be false, known to 1999, or -1 for none").by(() -> {
            for (int right : new int[] {1500, 1501, 1999, -1}) {
                b.answers(0, NEW, w -> w.fact(0, 1500, right));
            }
            for (int wrong : new int[] {1499, 2000, -2, 0, 1, 1400, Integer.MIN_VALUE, Integer.MAX_VALUE}) {
                b.refuses(ARGUMENT, NEW, w -> w.fact(0, 1500, wrong));
            }
        });
        b.promise(11, OUT_OF_RANGE).by(() -> {
            Boundaries.Scene some = Scenes.facts(23);
            b.takes(0, 3599, some, (w, longitude) -> w.fact(longitude, 1500, -1));
            b.takes(1400, 1999, some, (w, known) -> w.fact(0, known, -1));
            b.takes(1400, 1999, some, (w, falseFrom) -> w.fact(0, 1400, falseFrom));
            b.takes(1999, 1999, some, (w, falseFrom) -> w.fact(0, 1999, falseFrom));
        });
        b.promise(11, "Throws `IllegalStateException` if there are 24").by(() -> {
            b.answers(23, Scenes.facts(23), w -> w.fact(0, 1400, 1999));
            b.refuses(STATE, Scenes.facts(24), w -> w.fact(0, 1400, 1999));
        });
    }

    private void plateTerms() {
        b.term("At most 6 are numbered from 0, each of a gore; they are drawn with a width, 10 to 999, and stand beside "
                + "each other by their numbers.").by(() -> {
            b.answers(0, NEW, w -> w.plate(100));
            b.answers(5, Scenes.plates(5), w -> w.plate(100));
            b.refuses(STATE, Scenes.plates(6), w -> w.plate(100));
            b.takes(10, 999, NEW, (w, width) -> w.plate(width));
            // Each plate has the fact of its number at its printed left edge, and its own room.
            for (int i = 0; i < 6; i++) {
                int plate = i;
                b.answers(100 * plate, sixGores(), w -> w.placeOf(0, plate));
            }
        });
        b.term("A fact can be cut once into a plate, at a place from its left edge, from 0 to the width less 1; it is "
                + "printed in mirror, at the width less 1, less that place.").by(() -> {
            for (int width : new int[] {10, 11, 999}) {
                b.takes(0, width - 1, w -> {
                    w.plate(width);
                    w.fact(0, 1500, -1);
                }, (w, place) -> w.cut(0, 0, place));
                b.answers(width - 1, dryGlobe(width, 0), w -> w.placeOf(0, 0));
                b.answers(width - 2, dryGlobe(width, 1), w -> w.placeOf(0, 0));
                b.answers(0, dryGlobe(width, width - 1), w -> w.placeOf(0, 0));
            }
            Boundaries.Scene once = Scenes.plates(2).then(Scenes.facts(2)).then(w -> w.cut(0, 0, 7));
            b.refuses(UNDOABLE, once, w -> w.cut(0, 0, 7));
            b.refuses(UNDOABLE, once, w -> w.cut(0, 0, 8));
            b.answers(1, once, w -> w.cut(1, 0, 7));
            b.answers(2, once, w -> w.cut(0, 1, 7));
        });
        b.term("A fact that is cut can be hammered out, and cut again.").by(() -> {
            Boundaries.Scene hammered = Scenes.plates(2).then(Scenes.facts(2)).then(w -> {
                w.cut(0, 0, 7);
                w.cut(1, 0, 7);
                w.hammer(0, 0);
            });
            b.refuses(UNDOABLE, hammered, w -> w.hammer(0, 0));
            b.refuses(UNDOABLE, hammered, w -> w.hammer(0, 1));
            b.answers(1, hammered, w -> w.cut(0, 0, 7));
            b.answers(0, hammered, w -> w.hammer(1, 0));
            b.answers(0, hammered.then(w -> w.cut(0, 0, 9)), w -> w.hammer(0, 0));
        });
    }

    /** A globe of 600 with six gores of 100, on dry paper. */
    private static Boundaries.Scene sixGores() {
        return Scenes.plates(6).then(Scenes.facts(6)).then(w -> {
            w.growth(0);
            w.sphere(600);
            w.globe(0);
            for (int plate = 0; plate < 6; plate++) {
                w.cut(plate, plate, 99);
                w.paste(0, w.print(plate));
            }
        });
    }

    /** A globe with one gore of this width, on dry paper, and on it a fact that is cut at this place. */
    private static Boundaries.Scene dryGlobe(int width, int place) {
        return w -> {
            w.growth(0);
            w.plate(width);
            w.sphere(9999);
            w.globe(0);
            w.fact(0, 1500, -1);
            w.cut(0, 0, place);
            w.paste(0, w.print(0));
        };
    }

    private void changeTerms() {
        b.term("Each cut and each hammering is a change, with the year of now; what a plate shows behind a change, and "
                + "until the next one, is a state; the first state, without facts, is from the year in which the plate "
                + "was made.").by(() -> {
            b.answers(1, Scenes.plates(1), w -> w.states(0));
            b.answers(3, Scenes.changes(2), w -> w.states(0));
            b.answers(31, Scenes.changes(30), w -> w.states(0));
            b.answers(1, Scenes.changes(30), w -> w.states(1));
            // Made in 1605, cut in 1610 and hammered in 1620: bare from 1605 to 1610, and from 1620 on.
            Boundaries.Scene bare = changesOfYears(false);
            b.answers(6 + 11, bare, w -> w.years(0));
            b.answers(1605, bare, w -> w.yearOf(0, true));
            b.answers(1630, bare, w -> w.yearOf(0, false));
            Boundaries.Scene full = changesOfYears(true);
            b.answers(11, full, w -> w.years(0));
            b.answers(1610, full, w -> w.yearOf(0, true));
            b.answers(1620, full, w -> w.yearOf(0, false));
        });
        b.term("A plate gives at most 8 sheets, worn by that; to sharpen it makes it as new.").by(() -> {
            b.answers(7, Scenes.sheets(7), w -> w.print(0));
            b.refuses(UNDOABLE, Scenes.sheets(8), w -> w.print(0));
            b.answers(8, Scenes.sheets(8), w -> w.print(1));
            b.answers(8, Scenes.sheets(8), w -> w.sharpen(0));
            b.answers(8, Scenes.sheets(8).then(w -> w.sharpen(0)), w -> w.print(0));
            Boundaries.Scene again = Scenes.sheets(7).then(w -> {
                w.sharpen(0);
                for (int i = 0; i < 7; i++) {
                    w.print(0);
                }
            });
            b.answers(14, again, w -> w.print(0));
            b.refuses(UNDOABLE, again.then(w -> w.print(0)), w -> w.print(0));
            // To cut and to hammer wears no plate, and makes none as new.
            Boundaries.Scene changed = Scenes.sheets(8).then(Scenes.facts(1)).then(w -> w.cut(0, 0, 0));
            b.refuses(UNDOABLE, changed, w -> w.print(0));
            b.answers(0, Scenes.changes(30), w -> w.sharpen(0));
        });
    }

    /** A globe with a sheet from before or behind the cut, in 1630. */
    private static Boundaries.Scene changesOfYears(boolean isFull) {
        return Scenes.facts(1).then(w -> {
            w.pass(5);
            w.plate(100);
            int bare = w.print(0);
            w.pass(5);
            w.cut(0, 0, 0);
            int full = w.print(0);
            w.pass(10);
            w.hammer(0, 0);
            w.pass(10);
            w.sphere(500);
            w.globe(0);
            w.paste(0, isFull ? full : bare);
        });
    }

    private void plate() {
        b.promise(12, "Adds a plate.", "Returns its number.").by(() -> {
            for (int i = 0; i < 6; i++) {
                b.answers(i, Scenes.plates(i), w -> w.plate(10));
            }
        });
        b.promise(12, OUT_OF_RANGE).by(() -> b.takes(10, 999, Scenes.plates(5), (w, width) -> w.plate(width)));
        b.promise(12, "Throws `IllegalStateException` if there are 6, or there is a globe").by(() -> {
            b.answers(5, Scenes.plates(5), w -> w.plate(999));
            b.refuses(STATE, Scenes.plates(6), w -> w.plate(999));
            Boundaries.Scene noGlobe = Scenes.plates(1).then(Scenes.spheres(1)).then(w -> w.print(0));
            b.answers(1, noGlobe, w -> w.plate(10));
            b.refuses(STATE, Scenes.globes(1), w -> w.plate(10));
            b.refuses(STATE, Scenes.plates(4).then(Scenes.globes(1)), w -> w.plate(10));
        });
    }

    private void cut() {
        b.promise(13, "Cuts a fact.", "Returns how many facts the plate shows then.").by(() -> {
            Boundaries.Scene all = Scenes.plates(2).then(Scenes.facts(24));
            b.answers(1, all, w -> w.cut(0, 23, 0));
            b.answers(true, all.then(w -> w.cut(0, 23, 0)), w -> w.shows(0, 23));
            b.answers(24, all.then(w -> {
                for (int fact = 0; fact < 23; fact++) {
                    w.cut(1, fact, 0);
                }
            }), w -> w.cut(1, 23, 0));
            b.answers(2, Scenes.changes(29), w -> w.cut(0, 2, 0));
        });
        b.promise(13, NO_SUCH_PLATE_OR_FACT).by(() -> {
            b.finds(0, Scenes.facts(1), (w, plate) -> w.cut(plate, 0, 0));
            b.finds(0, Scenes.plates(1), (w, fact) -> w.cut(0, fact, 0));
            b.finds(Scenes.RICH_PLATES, Scenes.RICH, (w, plate) -> w.cut(plate, 4, 0));
            b.finds(Scenes.RICH_FACTS, Scenes.RICH, (w, fact) -> w.cut(1, fact, 0));
        });
        b.promise(13, "Throws `IllegalArgumentException` if the place is out of range").by(() -> {
            b.takes(0, 99, Scenes.RICH, (w, place) -> w.cut(0, 4, place));
            b.takes(0, 59, Scenes.RICH, (w, place) -> w.cut(1, 4, place));
        });
        b.promise(13, "Throws `UnsupportedOperationException` if it is cut into this plate, or it is not its time").by(() -> {
            b.refuses(UNDOABLE, Scenes.RICH, w -> w.cut(0, 1, 20));
            b.refuses(UNDOABLE, Scenes.RICH, w -> w.cut(1, 0, 0));
            b.refuses(UNDOABLE, Scenes.RICH, w -> w.cut(0, 2, 0));
            b.refuses(UNDOABLE, Scenes.RICH, w -> w.cut(0, 3, 0));
            b.answers(2, Scenes.RICH, w -> w.cut(0, 0, 0));
            b.answers(2, Scenes.RICH, w -> w.cut(0, 4, 0));
            b.answers(2, Scenes.RICH.then(w -> w.pass(37)), w -> w.cut(0, 2, 0));
            b.refuses(UNDOABLE, Scenes.RICH.then(w -> w.pass(36)), w -> w.cut(0, 2, 0));
        });
        b.promise(13, "Throws `IllegalStateException` if there are 30 changes of the plate").by(() -> {
            b.answers(2, Scenes.changes(29), w -> w.cut(0, 2, 0));
            b.refuses(STATE, Scenes.changes(30), w -> w.cut(0, 2, 0));
            b.answers(1, Scenes.changes(30), w -> w.cut(1, 2, 0));
        });
    }

    private void hammer() {
        b.promise(14, "Hammers a fact out.", "Returns how many facts the plate shows then.").by(() -> {
            b.answers(1, Scenes.changes(2), w -> w.hammer(0, 0));
            b.answers(0, Scenes.changes(3), w -> w.hammer(0, 1));
            b.answers(false, Scenes.changes(2).then(w -> w.hammer(0, 0)), w -> w.shows(0, 0));
            // A fact that is known to be false can't be cut any more, but can be hammered out.
            b.answers(2, Scenes.RICH, w -> w.hammer(1, 3));
        });
        b.promise(14, NO_SUCH_PLATE_OR_FACT).by(() -> {
            b.finds(0, Scenes.facts(1), (w, plate) -> w.hammer(plate, 0));
            b.finds(0, Scenes.plates(1), (w, fact) -> w.hammer(0, fact));
            b.finds(Scenes.RICH_PLATES, Scenes.RICH, (w, plate) -> w.hammer(plate, 1));
            b.finds(Scenes.RICH_FACTS, Scenes.RICH, (w, fact) -> w.hammer(1, fact));
        });
        b.promise(14, "Throws `UnsupportedOperationException` if it is not cut").by(() -> {
            b.refuses(UNDOABLE, Scenes.RICH, w -> w.hammer(0, 0));
            b.refuses(UNDOABLE, Scenes.RICH, w -> w.hammer(0, 4));
            b.refuses(UNDOABLE, Scenes.RICH, w -> w.hammer(0, 3));
            b.answers(0, Scenes.RICH, w -> w.hammer(0, 1));
        });
        b.promise(14, "Throws `IllegalStateException` if there are 30 changes of the plate").by(() -> {
            b.answers(0, Scenes.changes(29), w -> w.hammer(0, 1));
            b.refuses(STATE, Scenes.changes(30), w -> w.hammer(0, 1));
            b.refuses(STATE, Scenes.changes(30), w -> w.hammer(0, 0));
            Boundaries.Scene other = Scenes.changes(30).then(w -> w.cut(1, 1, 0));
            b.answers(0, other, w -> w.hammer(1, 1));
        });
    }

    private void shows() {
        b.promise(15, "Returns whether a plate shows a fact.", "Returns whether it does.").by(() -> {
            boolean[][] due = {{false, true, false, false, false}, {true, true, false, true, false}};
            for (int i = 0; i < 2; i++) {
                for (int j = 0; j < 5; j++) {
                    int plate = i;
                    int fact = j;
                    b.answers(due[plate][fact], Scenes.RICH, w -> w.shows(plate, fact));
                }
            }
            Boundaries.Scene last = Scenes.plates(6).then(Scenes.facts(24)).then(w -> w.cut(5, 23, 0));
            b.answers(true, last, w -> w.shows(5, 23));
            b.answers(false, last, w -> w.shows(5, 22));
            b.answers(false, last, w -> w.shows(4, 23));
            b.leaves(Scenes.RICH, w -> w.shows(1, 3));
        });
        b.promise(15, NO_SUCH_PLATE_OR_FACT).by(() -> {
            b.finds(0, Scenes.facts(1), (w, plate) -> w.shows(plate, 0));
            b.finds(0, Scenes.plates(1), (w, fact) -> w.shows(0, fact));
            b.finds(Scenes.RICH_PLATES, Scenes.RICH, (w, plate) -> w.shows(plate, 0));
            b.finds(Scenes.RICH_FACTS, Scenes.RICH, (w, fact) -> w.shows(1, fact));
        });
    }

    private void states() {
        b.promise(16, "Returns how many states a plate had.", "Returns how many, the first one and that of now too.")
                .by(() -> {
            b.answers(1, Scenes.plates(1), w -> w.states(0));
            b.answers(2, Scenes.plates(1).then(Scenes.facts(1)).then(w -> w.cut(0, 0, 0)), w -> w.states(0));
            b.answers(4, Scenes.changes(3), w -> w.states(0));
            b.answers(31, Scenes.changes(30), w -> w.states(0));
            // A state that is like an earlier one, or lasts no year, is a state.
            b.answers(4, Scenes.changes(3).then(w -> w.pass(1)), w -> w.states(0));
            b.leaves(Scenes.RICH, w -> w.states(0));
        });
        b.promise(16, NO_SUCH_PLATE).by(() -> {
            b.finds(0, NEW, (w, plate) -> w.states(plate));
            b.finds(Scenes.RICH_PLATES, Scenes.RICH, (w, plate) -> w.states(plate));
        });
    }

    private void sharpen() {
        b.promise(17, "Sharpens a plate.", "Returns how many sheets it gave since it was new.").by(() -> {
            b.answers(0, Scenes.plates(1), w -> w.sharpen(0));
            b.answers(1, Scenes.sheets(1), w -> w.sharpen(0));
            b.answers(8, Scenes.sheets(8), w -> w.sharpen(0));
            b.answers(0, Scenes.sheets(8).then(w -> w.sharpen(0)), w -> w.sharpen(0));
            b.answers(1, Scenes.sheets(8).then(w -> w.sharpen(0)).then(w -> w.print(0)), w -> w.sharpen(0));
            b.answers(8, Scenes.sheets(16).then(w -> w.sharpen(0)), w -> w.sharpen(1));
            // What was refused was not given.
            b.answers(8, Scenes.sheets(8).then(PlatesBoundaries::printInVain), w -> w.sharpen(0));
        });
        b.promise(17, NO_SUCH_PLATE).by(() -> {
            b.finds(0, NEW, (w, plate) -> w.sharpen(plate));
            b.finds(Scenes.RICH_PLATES, Scenes.RICH, (w, plate) -> w.sharpen(plate));
        });
    }

    private static void printInVain(Globewright w) {
        try {
            w.print(0);
        } catch (UnsupportedOperationException e) {
            return;
        }
    }
}
