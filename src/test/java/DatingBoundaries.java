import java.util.NoSuchElementException;

/** Losses, dating and pirates: promises 26 to 30. */
final class DatingBoundaries {
    private static final Class<IllegalArgumentException> ARGUMENT = IllegalArgumentException.class;
    private static final Class<UnsupportedOperationException> UNDOABLE = UnsupportedOperationException.class;
    private static final Class<NoSuchElementException> NONE = NoSuchElementException.class;
    private static final Boundaries.Scene RICH = Scenes.RICH;
    private static final String NO_SUCH_GLOBE = "Throws `IndexOutOfBoundsException` if there is no such globe";
    private static final String NOT_PASTED = "Throws `NoSuchElementException` if no sheet is pasted there";

    private final Boundaries b;

    private DatingBoundaries(Boundaries b) {
        this.b = b;
    }

    static void check(Boundaries b) {
        DatingBoundaries part = new DatingBoundaries(b);
        part.losses();
        part.yearsOfStates();
        part.yearsOfSheets();
        part.lose();
        part.loseGore();
        part.years();
        part.yearOf();
        part.isPirate();
        part.isPirateRefuses();
    }

    /** In this scene globe 0 can be of so many years, and of these as the first and the last one. */
    private void isDated(int years, int first, int last, Boundaries.Scene scene) {
        b.answers(years, scene, w -> w.years(0));
        b.answers(first, scene, w -> w.yearOf(0, true));
        b.answers(last, scene, w -> w.yearOf(0, false));
    }

    /**
     * A plate that is bare from 1600 on, shows fact 0 from 1610 on and fact 1 too from 1620 on, in
     * 1630; a sheet of each state, the one of this number being pasted on globe 0.
     */
    private static Boundaries.Scene dated(int sheet) {
        return Scenes.globes(1).then(Scenes.facts(3)).then(w -> {
            w.print(0);
            w.pass(10);
            w.cut(0, 0, 0);
            w.print(0);
            w.pass(10);
            w.cut(0, 1, 0);
            w.print(0);
            w.pass(10);
            w.paste(0, sheet);
        });
    }

    private void losses() {
        b.term("A fact can be lost from a globe, where its paper is gone: one does not see any more whether it is on that "
                + "sheet or not; a gore can be lost as a whole, which tells nothing then.").by(() -> {
            isDated(11, 1620, 1630, dated(2));
            isDated(21, 1610, 1630, dated(2).then(w -> w.lose(0, 0, 1)));
            // Fact 0 without fact 1 never was, as little as fact 1 without fact 0.
            isDated(11, 1620, 1630, dated(2).then(w -> w.lose(0, 0, 0)));
            isDated(31, 1600, 1630, dated(2).then(w -> w.lose(0, 0, 0)).then(w -> w.lose(0, 0, 1)));
            // One does not see any more that the facts are not on it.
            isDated(11, 1610, 1620, dated(1));
            isDated(21, 1610, 1630, dated(1).then(w -> w.lose(0, 0, 1)));
            isDated(21, 1600, 1620, dated(0).then(w -> w.lose(0, 0, 0)));
            isDated(31, 1600, 1630, dated(0).then(w -> w.lose(0, 0, 0)).then(w -> w.lose(0, 0, 1)));
            isDated(11, 1610, 1620, dated(1).then(w -> w.lose(0, 0, 2)));
            isDated(31, 1600, 1630, dated(2).then(w -> w.loseGore(0, 0)));
            isDated(31, 1600, 1630, dated(0).then(w -> w.loseGore(0, 0)));
            b.refuses(NONE, dated(2).then(w -> w.lose(0, 0, 1)), w -> w.placeOf(0, 1));
            b.refuses(NONE, dated(2).then(w -> w.loseGore(0, 0)), w -> w.placeOf(0, 1));
            b.answers(true, dated(2).then(w -> w.lose(0, 0, 1)), w -> w.isPrinted(2, 1));
        });
    }

    private void yearsOfStates() {
        b.term("A globe can be of a year, from 1600 to that of now, if for each sheet on it whose gore is not lost some "
                + "state of the plate, that was so at some time in this year, shows just the same facts, those lost from "
                + "the sheet left aside.").by(() -> {
            isDated(1, 1600, 1600, Scenes.globes(1));
            isDated(2, 1600, 1601, Scenes.globes(1).then(w -> w.pass(1)));
            isDated(400, 1600, 1999, Scenes.globes(1).then(Scenes.year(1999)));
            isDated(11, 1600, 1610, dated(0));
            isDated(11, 1610, 1620, dated(1));
            isDated(11, 1620, 1630, dated(2));
            isDated(12, 1620, 1631, dated(2).then(w -> w.pass(1)));
            // A state is still so in the year in which it ends.
            isDated(11, 1620, 1630, dated(2).then(w -> w.hammer(0, 1)));
            isDated(11, 1620, 1630, dated(2).then(w -> w.hammer(0, 1)).then(w -> w.pass(1)));
            isDated(12, 1610, 1630, dated(1).then(w -> w.hammer(0, 1)));
            isDated(13, 1610, 1631, dated(1).then(w -> w.hammer(0, 1)).then(w -> w.pass(1)));
            // It may have been so for no whole year, and more than once; where the facts stood does not matter.
            isDated(1, 1600, 1600, shortState());
            isDated(12, 1620, 1632, dated(2).then(w -> {
                w.hammer(0, 0);
                w.pass(1);
                w.hammer(0, 1);
                w.pass(1);
                w.cut(0, 0, 9);
                w.cut(0, 1, 8);
                w.hammer(0, 0);
                w.pass(1);
            }));
        });
    }

    /** A sheet of a state that came and went in 1600. */
    private static Boundaries.Scene shortState() {
        return Scenes.globes(1).then(Scenes.facts(1)).then(w -> {
            w.cut(0, 0, 0);
            w.paste(0, w.print(0));
            w.hammer(0, 0);
            w.pass(10);
        });
    }

    /** Two plates that are bare up to 1610; plate 0 has fact 0 from then on, plate 1 fact 1 from that year on. */
    private static Boundaries.Scene twoPlates(int year) {
        return Scenes.plates(1).then(Scenes.globes(1)).then(Scenes.facts(2)).then(w -> {
            w.print(0);
            w.print(1);
            w.pass(10);
            w.cut(0, 0, 0);
            w.print(0);
            if (year > 1610) {
                w.pass(year - 1610);
            }
            w.cut(1, 1, 0);
            w.print(1);
            w.pass(10);
        });
    }

    private void yearsOfSheets() {
        b.promise(28, "Returns how many years a globe can be of.", "Returns how many, 0 if its plates contradict.").by(() -> {
            // A sheet from ahead of 1610 with one from the other plate's change on.
            Boundaries.Scene meeting = twoPlates(1610).then(w -> w.paste(0, 0)).then(w -> w.paste(0, 3));
            isDated(1, 1610, 1610, meeting);
            Boundaries.Scene apart = twoPlates(1611).then(w -> w.paste(0, 0)).then(w -> w.paste(0, 3));
            b.answers(0, apart, w -> w.years(0));
            b.refuses(NONE, apart, w -> w.yearOf(0, true));
            b.refuses(NONE, apart, w -> w.yearOf(0, false));
            isDated(11, 1611, 1621, apart.then(w -> w.loseGore(0, 0)));
            isDated(11, 1600, 1610, apart.then(w -> w.loseGore(0, 1)));
            isDated(22, 1600, 1621, apart.then(w -> w.loseGore(0, 0)).then(w -> w.loseGore(0, 1)));
            isDated(22, 1600, 1621, apart.then(w -> w.lose(0, 0, 0)).then(w -> w.lose(0, 1, 1)));
            isDated(2, 1610, 1611, twoPlates(1611).then(w -> w.paste(0, 2)).then(w -> w.paste(0, 1)));
            isDated(11, 1611, 1621, twoPlates(1611).then(w -> w.paste(0, 2)).then(w -> w.paste(0, 3)));
            isDated(11, 1600, 1610, twoPlates(1611).then(w -> w.paste(0, 0)).then(w -> w.paste(0, 1)));
            b.leaves(apart, w -> w.years(0));
        });
    }

    private void lose() {
        b.promise(26, "Loses a fact from a globe.", "Returns whether its sheet shows it.").by(() -> {
            b.answers(true, dated(2), w -> w.lose(0, 0, 0));
            b.answers(true, dated(2), w -> w.lose(0, 0, 1));
            b.answers(false, dated(2), w -> w.lose(0, 0, 2));
            b.answers(false, dated(1), w -> w.lose(0, 0, 1));
            // The sheet counts, not what the plate shows now, nor another gore.
            b.answers(true, dated(2).then(w -> w.hammer(0, 1)), w -> w.lose(0, 0, 1));
            b.answers(true, RICH, w -> w.lose(2, 1, 0));
            b.answers(false, RICH, w -> w.lose(2, 0, 0));
        });
        b.promise(26, NO_SUCH_GLOBE + ", plate or fact").by(() -> {
            b.finds(0, Scenes.plates(1).then(Scenes.facts(1)), (w, globe) -> w.lose(globe, 0, 0));
            b.finds(0, Scenes.globes(1), (w, fact) -> w.lose(0, 0, fact));
            b.finds(Scenes.RICH_GLOBES, RICH, (w, globe) -> w.lose(globe, 0, 3));
            b.finds(Scenes.RICH_PLATES, RICH, (w, plate) -> w.lose(2, plate, 3));
            b.finds(Scenes.RICH_FACTS, RICH, (w, fact) -> w.lose(2, 1, fact));
        });
        b.promise(26, NOT_PASTED).by(() -> {
            b.refuses(NONE, RICH, w -> w.lose(1, 1, 0));
            b.refuses(NONE, Scenes.globes(1).then(Scenes.facts(1)).then(w -> w.print(0)), w -> w.lose(0, 0, 0));
            b.answers(true, RICH.then(w -> w.paste(1, w.print(1))), w -> w.lose(1, 1, 0));
        });
        b.promise(26, "Throws `UnsupportedOperationException` if the fact or the gore is lost there").by(() -> {
            b.refuses(UNDOABLE, RICH, w -> w.lose(0, 0, 0));
            b.refuses(UNDOABLE, RICH, w -> w.lose(1, 0, 2));
            b.refuses(UNDOABLE, RICH, w -> w.lose(0, 1, 3));
            b.refuses(UNDOABLE, RICH, w -> w.lose(0, 1, 4));
            // Lost there is not lost elsewhere.
            b.answers(false, RICH, w -> w.lose(1, 0, 0));
            b.answers(true, RICH, w -> w.lose(0, 0, 1));
            b.answers(true, RICH.then(w -> w.lose(2, 0, 1)), w -> w.lose(2, 1, 1));
            b.answers(true, RICH.then(w -> w.loseGore(2, 0)), w -> w.lose(2, 1, 1));
        });
    }

    private void loseGore() {
        b.promise(27, "Loses a gore from a globe.", "Returns how many facts its sheet shows that were not lost.").by(() -> {
            b.answers(2, dated(2), w -> w.loseGore(0, 0));
            b.answers(1, dated(2).then(w -> w.lose(0, 0, 0)), w -> w.loseGore(0, 0));
            b.answers(2, dated(2).then(w -> w.lose(0, 0, 2)), w -> w.loseGore(0, 0));
            b.answers(0, dated(2).then(w -> w.lose(0, 0, 0)).then(w -> w.lose(0, 0, 1)), w -> w.loseGore(0, 0));
            b.answers(0, dated(0), w -> w.loseGore(0, 0));
            b.answers(3, RICH, w -> w.loseGore(2, 1));
            Boundaries.Scene all = Scenes.globes(1).then(Scenes.facts(24)).then(w -> {
                for (int fact = 0; fact < 24; fact++) {
                    w.cut(0, fact, fact);
                }
                w.paste(0, w.print(0));
            });
            b.answers(24, all, w -> w.loseGore(0, 0));
        });
        b.promise(27, NO_SUCH_GLOBE + " or plate").by(() -> {
            b.finds(0, Scenes.plates(1), (w, globe) -> w.loseGore(globe, 0));
            b.finds(Scenes.RICH_GLOBES, RICH, (w, globe) -> w.loseGore(globe, 0));
            b.finds(Scenes.RICH_PLATES, RICH, (w, plate) -> w.loseGore(2, plate));
        });
        b.promise(27, NOT_PASTED).by(() -> {
            b.refuses(NONE, RICH, w -> w.loseGore(1, 1));
            b.refuses(NONE, Scenes.globes(1).then(w -> w.print(0)), w -> w.loseGore(0, 0));
            b.answers(3, RICH.then(w -> w.paste(1, w.print(1))), w -> w.loseGore(1, 1));
        });
        b.promise(27, "Throws `UnsupportedOperationException` if the gore is lost").by(() -> {
            b.refuses(UNDOABLE, RICH, w -> w.loseGore(0, 1));
            b.refuses(UNDOABLE, dated(2).then(w -> w.loseGore(0, 0)), w -> w.loseGore(0, 0));
            b.answers(1, RICH, w -> w.loseGore(0, 0));
            b.answers(3, RICH.then(w -> w.loseGore(2, 0)), w -> w.loseGore(2, 1));
        });
    }

    private void years() {
        b.promise(28, NO_SUCH_GLOBE).by(() -> {
            b.finds(0, Scenes.plates(1).then(Scenes.spheres(1)), (w, globe) -> w.years(globe));
            b.finds(Scenes.RICH_GLOBES, RICH, (w, globe) -> w.years(globe));
        });
    }

    private void yearOf() {
        b.promise(29, "Returns the first or last year a globe can be of.", "Returns the year.").by(() -> {
            b.answers(1620, dated(2), w -> w.yearOf(0, true));
            b.answers(1630, dated(2), w -> w.yearOf(0, false));
            b.answers(1600, shortState(), w -> w.yearOf(0, true));
            b.answers(1600, shortState(), w -> w.yearOf(0, false));
            b.leaves(RICH, w -> w.yearOf(0, true));
        });
        b.promise(29, NO_SUCH_GLOBE).by(() -> {
            b.finds(0, Scenes.plates(1).then(Scenes.spheres(1)), (w, globe) -> w.yearOf(globe, true));
            b.finds(Scenes.RICH_GLOBES, RICH, (w, globe) -> w.yearOf(globe, false));
        });
        b.promise(29, "Throws `NoSuchElementException` if it can be of none").by(() -> {
            Boundaries.Scene meeting = twoPlates(1610).then(w -> w.paste(0, 0)).then(w -> w.paste(0, 3));
            b.answers(1610, meeting, w -> w.yearOf(0, true));
            b.answers(1610, meeting, w -> w.yearOf(0, false));
            Boundaries.Scene apart = twoPlates(1611).then(w -> w.paste(0, 0)).then(w -> w.paste(0, 3));
            b.refuses(NONE, apart, w -> w.yearOf(0, true));
            b.refuses(NONE, apart, w -> w.yearOf(0, false));
        });
    }

    /**
     * Facts 1 and 2 are traps, 0 and 3 are none and stand on all sheets. Of plate 0 the sheets 0 and 1
     * show trap 1, 2 and 3 trap 2; of plate 1 the sheets 4 and 5 show trap 2, 6 and 7 trap 1.
     */
    private static Boundaries.Scene traps(int[][] pasted) {
        return Scenes.plates(1).then(Scenes.globes(2)).then(w -> {
            w.fact(0, 1500, -1);
            w.fact(0, 1500, 1500);
            w.fact(0, 1600, 1600);
            w.fact(0, 1600, 1601);
            for (int plate = 0; plate < 2; plate++) {
                w.cut(plate, 0, 0);
                w.cut(plate, 3, 0);
                for (int trap : new int[] {1 + plate, 2 - plate}) {
                    w.cut(plate, trap, 0);
                    w.print(plate);
                    w.print(plate);
                    w.hammer(plate, trap);
                }
            }
            for (int globe = 0; globe < 2; globe++) {
                for (int sheet : pasted[globe]) {
                    w.paste(globe, sheet);
                }
            }
        });
    }

    private void isPirate() {
        b.promise(30, "Returns whether a globe was copied from another one: both show a trap that is the same one, not "
                + "lost.", "Returns whether so.").by(() -> {
            b.answers(false, traps(new int[][] {{}, {}}), w -> w.isPirate(0, 1));
            b.answers(false, traps(new int[][] {{0}, {}}), w -> w.isPirate(0, 1));
            b.answers(false, traps(new int[][] {{0}, {2}}), w -> w.isPirate(0, 1));
            b.answers(false, traps(new int[][] {{0}, {4}}), w -> w.isPirate(1, 0));
            b.answers(true, traps(new int[][] {{0}, {1}}), w -> w.isPirate(0, 1));
            b.answers(true, traps(new int[][] {{0}, {2, 6}}), w -> w.isPirate(0, 1));
            Boundaries.Scene copied = traps(new int[][] {{0}, {7}});
            b.answers(true, copied, w -> w.isPirate(0, 1));
            b.answers(true, copied, w -> w.isPirate(1, 0));
            b.answers(false, copied.then(w -> w.lose(0, 0, 1)), w -> w.isPirate(0, 1));
            b.answers(false, copied.then(w -> w.lose(1, 1, 1)), w -> w.isPirate(0, 1));
            b.answers(true, copied.then(w -> w.lose(0, 0, 0)).then(w -> w.lose(1, 1, 2)), w -> w.isPirate(0, 1));
            b.answers(false, copied.then(w -> w.loseGore(0, 0)), w -> w.isPirate(0, 1));
            b.answers(false, copied.then(w -> w.loseGore(1, 1)), w -> w.isPirate(1, 0));
            // A trap that is lost on one gore is still shown by the other one.
            Boundaries.Scene twice = traps(new int[][] {{0, 6}, {1}});
            b.answers(true, twice.then(w -> w.lose(0, 0, 1)), w -> w.isPirate(0, 1));
            b.answers(true, twice.then(w -> w.loseGore(0, 1)), w -> w.isPirate(0, 1));
            b.answers(false, twice.then(w -> w.lose(0, 0, 1)).then(w -> w.lose(0, 1, 1)), w -> w.isPirate(0, 1));
            // A trap that only the plates show, or only one globe, be it the first or the last fact there can be.
            for (int i : new int[] {0, 23}) {
                int trap = i;
                Boundaries.Scene plain = Scenes.globes(2).then(w -> {
                    for (int fact = 0; fact < 24; fact++) {
                        w.fact(0, 1500, fact == trap ? 1500 : -1);
                    }
                    w.paste(0, w.print(0));
                    w.cut(0, trap, 0);
                });
                b.answers(false, plain.then(w -> w.paste(1, w.print(0))), w -> w.isPirate(0, 1));
                b.answers(false, plain, w -> w.isPirate(0, 1));
                b.answers(true, plain.then(w -> w.globe(w.sphere(500))).then(w -> w.paste(1, w.print(0)))
                        .then(w -> w.paste(2, w.print(0))), w -> w.isPirate(1, 2));
            }
            b.leaves(copied, w -> w.isPirate(0, 1));
        });
    }

    private void isPirateRefuses() {
        b.promise(30, NO_SUCH_GLOBE + ", for either").by(() -> {
            b.finds(0, Scenes.plates(1), (w, globe) -> w.isPirate(globe, 0));
            b.finds(Scenes.RICH_GLOBES, RICH, (w, globe) -> w.isPirate(globe, 1));
            b.finds(Scenes.RICH_GLOBES, RICH, (w, other) -> w.isPirate(1, other));
        });
        b.promise(30, "Throws `IllegalArgumentException` if both are the same").by(() -> {
            for (int i = 0; i < Scenes.RICH_GLOBES; i++) {
                int globe = i;
                b.refuses(ARGUMENT, RICH, w -> w.isPirate(globe, globe));
            }
            b.answers(true, RICH, w -> w.isPirate(0, 1));
            b.answers(true, RICH, w -> w.isPirate(2, 1));
        });
    }
}
