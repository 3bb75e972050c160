import java.util.NoSuchElementException;

/** The workshop as a whole, promises 1, 49 and 50, and what the document says of calls and exceptions. */
final class WorkshopBoundaries {
    private static final Class<IndexOutOfBoundsException> INDEX = IndexOutOfBoundsException.class;
    private static final Class<IllegalArgumentException> ARGUMENT = IllegalArgumentException.class;
    private static final Class<UnsupportedOperationException> UNDOABLE = UnsupportedOperationException.class;
    private static final Class<IllegalStateException> STATE = IllegalStateException.class;
    private static final Class<NoSuchElementException> NONE = NoSuchElementException.class;
    private static final Class<ArithmeticException> EMPTY = ArithmeticException.class;
    private static final Boundaries.Scene NEW = Scenes.NEW;
    private static final Boundaries.Scene RICH = Scenes.RICH;
    private static final Boundaries.Scene FULL = Scenes.FULL;

    private final Boundaries b;

    private WorkshopBoundaries(Boundaries b) {
        this.b = b;
    }

    static void check(Boundaries b) {
        WorkshopBoundaries part = new WorkshopBoundaries(b);
        part.calls();
        part.newObject();
        part.checksum();
        part.isTrue();
        part.refusedCallsInARow();
        part.fullWorkshop();
        part.firstOfTwo();
        part.firstOfThreeOrFour();
    }

    private void calls() {
        b.beginning("An object is used for at most 512 calls after it has been made; what later calls answer is free.")
                .by(() -> {
            Boundaries.Scene heavy = w -> {
                w.sphere(500);
                for (int call = 1; call < 511; call++) {
                    w.load(0, 'u', 999);
                }
            };
            b.answers(511 * 999, heavy, w -> w.load(0, 'u', 999));
            b.answers(510 * 999, heavy, w -> w.balance(0));
            // The 512th call on an object that was printed to the last sheet, the calls between being looks.
            Boundaries.Scene looked = Scenes.sheets(40).then(w -> {
                for (int call = 46; call < 511; call++) {
                    w.checksum();
                }
            });
            b.answers(8, looked, w -> w.sharpen(4));
        });
    }

    private void newObject() {
        b.promise(1, "Creates an empty workshop.").by(() -> {
            b.answers(217L, NEW, w -> w.checksum());
            b.answers(0, NEW, w -> w.money());
            b.answers(true, NEW, w -> w.isTrue());
            b.answers(1601, NEW, w -> w.pass(1));
            b.answers(100, NEW, w -> w.growth(1));
            b.refuses(EMPTY, NEW, w -> w.balancedShare());
            b.refuses(EMPTY, NEW, w -> w.meanGap());
            b.refuses(INDEX, NEW, w -> w.lean(0, 'e'));
            b.refuses(INDEX, NEW, w -> w.states(0));
            b.refuses(INDEX, NEW.then(w -> w.plate(10)), w -> w.shows(0, 0));
            b.refuses(INDEX, NEW.then(w -> w.fact(0, 1500, -1)), w -> w.isPrinted(0, 0));
            b.refuses(INDEX, NEW, w -> w.years(0));
            b.refuses(INDEX, NEW, w -> w.agreeing(0));
            b.refuses(INDEX, NEW, w -> w.starAt(0, 1600, false));
            b.refuses(INDEX, NEW, w -> w.owes(0));
            for (int i = 0; i < 10; i++) {
                int region = i;
                b.refuses(NONE, NEW, w -> w.colour(region % 4, region, 1999));
            }
            // An object that is made is not touched by what is done with another one.
            b.answers(217L, w -> Scenes.FULL.set(new Globewright()), w -> w.checksum());
        });
    }

    /** What the sum is behind these numbers. */
    private static long sum(long first, long... numbers) {
        long sum = first;
        for (long number : numbers) {
            sum = 31 * sum + number;
        }
        return sum;
    }

    private void checksum() {
        b.promise(49, "Returns a sum over the workshop.", "Returns 7 at first, then for each plate 31 times itself plus how "
                + "many facts it shows, then 31 times itself plus its states; for each sheet 31 times itself plus its "
                + "plate; for each globe, and each plate that is pasted on it, 31 times itself plus the gap; then 31 times "
                + "itself plus the money.").by(() -> {
            b.answers(sum(7, 0), NEW, w -> w.checksum());
            b.answers(sum(7, 0, 1, 0), Scenes.plates(1), w -> w.checksum());
            b.answers(sum(7, 2, 31, 0, 1, 0), Scenes.changes(30), w -> w.checksum());
            b.answers(sum(7, 0, 1, 0, 1, 0, 1, 0, 1, 0, 1, 0, 1, 0, 0, 0, 0, 0, 0, 0, 0, 1, 0), Scenes.sheets(9),
                    w -> w.checksum());
            b.answers(sum(7, 0, 1, 0), Scenes.globes(6), w -> w.checksum());
            b.answers(sum(7, 0, 1, 0, 390, 0), Scenes.globes(2).then(w -> w.paste(1, w.print(0))), w -> w.checksum());
            // By globes, then by plates, not in the order in which they were pasted.
            Boundaries.Scene crossed = Scenes.plates(1).then(w -> w.plate(200)).then(Scenes.spheres(2)).then(w -> {
                w.globe(1);
                w.globe(0);
                w.growth(0);
                w.print(1);
                w.print(0);
                w.print(0);
                w.paste(1, 1);
                w.paste(0, 0);
                w.growth(10);
                w.paste(0, 2);
            });
            b.answers(sum(7, 0, 1, 0, 1, 1, 0, 0, 149, 50, 150, 0), crossed, w -> w.checksum());
            b.answers(sum(7, 0, 1, 0, 1, 1, 0, 0, 149, 50, 150, 0), crossed.then(w -> w.loseGore(0, 1)),
                    w -> w.checksum());
            // A gap below 0 and the greatest money.
            Boundaries.Scene narrow = NEW.then(w -> {
                w.plate(999);
                w.sphere(100);
                w.globe(0);
                w.growth(200);
                w.paste(0, w.print(0));
                for (int i = 0; i < 10; i++) {
                    w.subscribe(9999);
                }
            });
            b.answers(sum(7, 0, 1, 0, -1098, 49990), narrow, w -> w.checksum());
            b.leaves(RICH, w -> w.checksum());
        });
    }

    private void isTrue() {
        b.promise(50, "Checks that each globe of sheets none of which was printed ahead of the last change of its plate can "
                + "be of this year; that a state's facts are those that its changes make, looked at anew; and that nobody "
                + "owes less than 0.", "Returns whether all of it holds.").by(() -> {
            for (Boundaries.Scene scene : new Boundaries.Scene[] {NEW, RICH, FULL, Scenes.changes(30), Scenes.sheets(40),
                Scenes.globes(6), Scenes.subscribers(10), Scenes.year(1999)}) {
                b.answers(true, scene, w -> w.isTrue());
                b.leaves(scene, w -> w.isTrue());
            }
            // Sheets from ahead of a change and from behind it, in the year of it and later on.
            Boundaries.Scene changed = Scenes.globes(2).then(Scenes.facts(2)).then(w -> {
                w.pass(7);
                w.paste(0, w.print(0));
                w.cut(0, 0, 0);
                w.paste(1, w.print(0));
            });
            b.answers(true, changed, w -> w.isTrue());
            b.answers(true, changed.then(w -> w.pass(1)), w -> w.isTrue());
            b.answers(true, changed.then(w -> w.pass(1)).then(w -> w.hammer(0, 0)), w -> w.isTrue());
            b.answers(true, changed.then(w -> w.lose(1, 0, 0)).then(w -> w.loseGore(0, 0)), w -> w.isTrue());
        });
    }

    private void refusedCallsInARow() {
        Boundaries.Call[] refused = {w -> w.sine(901), w -> w.arc(1001), w -> w.sphere(99), w -> w.load(4, 'e', 1),
            w -> w.load(2, 'x', 1), w -> w.load(2, 'e', 1000), w -> w.load(0, 'e', 1), w -> w.lean(4, 'e'),
            w -> w.lean(2, 'w'), w -> w.balance(-1), w -> w.leanBits(4), w -> w.scaleBits(4, 1), w -> w.pass(100),
            w -> w.fact(3600, 1500, -1), w -> w.fact(0, 1500, 1499), w -> w.plate(9), w -> w.plate(10),
            w -> w.cut(2, 0, 0), w -> w.cut(0, 0, 100), w -> w.cut(0, 2, 0), w -> w.cut(1, 0, 0), w -> w.hammer(0, 5),
            w -> w.hammer(0, 0), w -> w.shows(0, 5), w -> w.states(2), w -> w.sharpen(2), w -> w.print(2),
            w -> w.print(0), w -> w.isPrinted(10, 0), w -> w.growth(201), w -> w.globe(4), w -> w.globe(0),
            w -> w.globe(2), w -> w.paste(3, 4), w -> w.paste(1, 4), w -> w.paste(1, 9), w -> w.gap(3, 0),
            w -> w.gap(1, 1), w -> w.placeOf(0, 5), w -> w.placeOf(0, 0), w -> w.offOf(3, 0), w -> w.offOf(0, 3),
            w -> w.lose(0, 2, 0), w -> w.lose(1, 1, 0), w -> w.lose(0, 0, 0), w -> w.lose(0, 1, 1),
            w -> w.loseGore(0, 2), w -> w.loseGore(1, 1), w -> w.loseGore(0, 1), w -> w.years(3),
            w -> w.yearOf(3, true), w -> w.isPirate(0, 3), w -> w.isPirate(1, 1), w -> w.source(2, 0, 0),
            w -> w.source(0, 0, 901), w -> w.agreeing(2), w -> w.best(2), w -> w.best(1), w -> w.news(10, 1600, 0),
            w -> w.news(3, 1600, -1), w -> w.claim(4, 3, 1), w -> w.claim(1, 3, 10), w -> w.colour(0, 3, 1399),
            w -> w.colour(0, 3, 1599), w -> w.star(0, 901, 1600), w -> w.starAt(2, 1600, true),
            w -> w.starAt(0, 2000, true), w -> w.day(0, 301), w -> w.distance(0, 0, 0, 3600), w -> w.subscribe(1),
            w -> w.giveUp(3), w -> w.giveUp(1), w -> w.giveUp(0), w -> w.deliver(3), w -> w.deliver(2),
            w -> w.deliver(1), w -> w.owes(3)};
        b.term("A method that throws an exception changes nothing.").by(() -> {
            for (Boundaries.Call call : refused) {
                b.refuses(RICH, call);
            }
            b.leaves(RICH, w -> allInVain(w, refused));
        });
    }

    private static Object allInVain(Globewright w, Boundaries.Call[] calls) {
        int thrown = 0;
        for (Boundaries.Call call : calls) {
            try {
                call.on(w);
            } catch (RuntimeException e) {
                thrown++;
            }
        }
        return thrown;
    }

    private void fullWorkshop() {
        b.term("A method that throws an exception changes nothing.").by(() -> {
            b.refuses(STATE, FULL, w -> w.sphere(500));
            b.refuses(STATE, FULL, w -> w.fact(0, 1500, -1));
            b.refuses(STATE, FULL, w -> w.plate(100));
            b.refuses(STATE, FULL, w -> w.cut(0, 8, 0));
            b.refuses(STATE, FULL, w -> w.hammer(0, 0));
            b.refuses(UNDOABLE, FULL, w -> w.print(0));
            b.refuses(STATE, FULL, w -> w.print(2));
            b.refuses(STATE, FULL, w -> w.isle());
            b.refuses(STATE, FULL, w -> w.source(5, 0, 0));
            b.refuses(STATE, FULL, w -> w.star(0, 0, 1600));
            b.refuses(STATE, FULL, w -> w.subscribe(2));
            b.refuses(STATE, FULL, w -> w.pass(1));
            for (int i = 0; i < 6; i++) {
                int number = i;
                b.refuses(UNDOABLE, FULL, w -> w.load(number, 'e', 1));
                b.refuses(UNDOABLE, FULL, w -> w.globe(number));
                b.refuses(UNDOABLE, FULL, w -> w.deliver(number));
                b.refuses(UNDOABLE, FULL, w -> w.giveUp(number));
                b.refuses(UNDOABLE, FULL, w -> w.paste(number, 39));
            }
        });
    }

    private void firstOfTwo() {
        b.term("If several exceptions apply, the exception listed first is thrown.").by(() -> {
            b.refuses(ARGUMENT, FULL, w -> w.sphere(99));
            b.refuses(ARGUMENT, FULL, w -> w.fact(3600, 1500, -1));
            b.refuses(ARGUMENT, FULL, w -> w.fact(0, 1500, 1499));
            b.refuses(ARGUMENT, FULL, w -> w.plate(9));
            b.refuses(ARGUMENT, Scenes.globes(1), w -> w.plate(1000));
            b.refuses(ARGUMENT, FULL, w -> w.star(0, 901, 1600));
            b.refuses(ARGUMENT, FULL, w -> w.subscribe(1));
            b.refuses(ARGUMENT, FULL, w -> w.pass(100));
            b.refuses(INDEX, FULL, w -> w.load(6, 'x', 1));
            b.refuses(INDEX, FULL, w -> w.load(-1, 'e', 0));
            b.refuses(ARGUMENT, FULL, w -> w.load(0, 'x', 1));
            b.refuses(ARGUMENT, FULL, w -> w.load(0, 'e', 0));
            b.refuses(INDEX, FULL, w -> w.lean(6, 'x'));
            b.refuses(INDEX, FULL, w -> w.isPirate(6, 6));
            b.refuses(INDEX, FULL, w -> w.isPirate(-1, -1));
            b.refuses(INDEX, FULL, w -> w.starAt(12, 1399, true));
            b.refuses(ARGUMENT, RICH, w -> w.colour(0, 10, 1999));
            b.refuses(ARGUMENT, RICH, w -> w.colour(4, 4, 1999));
            b.refuses(ARGUMENT, RICH, w -> w.colour(0, 4, 2000));
            b.refuses(UNDOABLE, Scenes.globes(1), w -> w.deliver(0));
            b.refuses(UNDOABLE, FULL, w -> w.deliver(0));
            b.refuses(UNDOABLE, FULL, w -> w.print(0));
            b.refuses(INDEX, FULL, w -> w.print(6));
            b.refuses(INDEX, FULL, w -> w.paste(6, 0));
            b.refuses(INDEX, FULL, w -> w.paste(0, 40));
            b.refuses(INDEX, RICH, w -> w.gap(1, 2));
            b.refuses(INDEX, RICH, w -> w.placeOf(1, 5));
            b.refuses(INDEX, RICH, w -> w.offOf(3, 3));
            b.refuses(INDEX, RICH, w -> w.lose(1, 1, 5));
            b.refuses(INDEX, RICH, w -> w.lose(0, 1, 5));
            b.refuses(INDEX, RICH, w -> w.lose(3, 1, 0));
            b.refuses(INDEX, RICH, w -> w.loseGore(1, 2));
            b.refuses(INDEX, RICH, w -> w.loseGore(3, 1));
        });
    }

    private void firstOfThreeOrFour() {
        b.term("If several exceptions apply, the exception listed first is thrown.").by(() -> {
            // A plate with 30 changes, the fact 0 cut into it, and one that is not known yet.
            Boundaries.Scene changed = Scenes.changes(30).then(w -> w.fact(0, 1601, -1));
            b.refuses(INDEX, changed, w -> w.cut(2, 0, -1));
            b.refuses(INDEX, changed, w -> w.cut(0, 4, 100));
            b.refuses(INDEX, changed, w -> w.cut(0, 4, 0));
            b.refuses(ARGUMENT, changed, w -> w.cut(0, 0, 100));
            b.refuses(ARGUMENT, changed, w -> w.cut(0, 3, -1));
            b.refuses(ARGUMENT, changed, w -> w.cut(0, 2, 100));
            b.refuses(UNDOABLE, changed, w -> w.cut(0, 0, 0));
            b.refuses(UNDOABLE, changed, w -> w.cut(0, 3, 0));
            b.refuses(STATE, changed, w -> w.cut(0, 2, 0));
            b.refuses(INDEX, changed, w -> w.hammer(0, 4));
            b.refuses(INDEX, changed, w -> w.hammer(2, 0));
            b.refuses(UNDOABLE, changed, w -> w.hammer(0, 2));
            b.refuses(STATE, changed, w -> w.hammer(0, 0));
            b.refuses(INDEX, FULL, w -> w.source(6, 3600, 901));
            b.refuses(INDEX, FULL, w -> w.source(6, 0, 0));
            b.refuses(ARGUMENT, FULL, w -> w.source(0, 3600, 0));
            b.refuses(ARGUMENT, FULL, w -> w.source(0, 0, 901));
            // No sphere stands there, and there is no plate.
            b.refuses(INDEX, Scenes.spheres(1), w -> w.globe(1));
            b.refuses(INDEX, FULL, w -> w.globe(6));
            b.refuses(INDEX, FULL, w -> w.deliver(6));
            b.refuses(INDEX, FULL, w -> w.giveUp(10));
        });
    }
}
