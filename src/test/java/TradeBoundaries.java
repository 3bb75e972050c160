import java.util.NoSuchElementException;

/** Subscribers: promises 42 to 46. */
final class TradeBoundaries {
    private static final Class<UnsupportedOperationException> UNDOABLE = UnsupportedOperationException.class;
    private static final Class<IllegalStateException> STATE = IllegalStateException.class;
    private static final Class<NoSuchElementException> NONE = NoSuchElementException.class;
    private static final Boundaries.Scene NEW = Scenes.NEW;
    private static final Boundaries.Scene RICH = Scenes.RICH;
    private static final String NO_SUCH_SUBSCRIBER = "Throws `IndexOutOfBoundsException` if there is no such subscriber";

    private final Boundaries b;

    private TradeBoundaries(Boundaries b) {
        this.b = b;
    }

    static void check(Boundaries b) {
        TradeBoundaries part = new TradeBoundaries(b);
        part.subscriberTerm();
        part.deliveryTerm();
        part.giveUpAndMoneyTerms();
        part.subscribe();
        part.giveUp();
        part.deliver();
        part.owes();
        part.money();
    }

    /** Globes of one plate each that can be delivered. */
    private static Boundaries.Scene finished(int globes) {
        return Scenes.globes(globes).then(w -> {
            for (int globe = 0; globe < globes; globe++) {
                w.paste(globe, w.print(0));
            }
        });
    }

    /** A globe that can be delivered, and subscribers of these prices; 0 lets a year go by. */
    private static Boundaries.Scene waiting(int... prices) {
        return finished(2).then(w -> {
            for (int price : prices) {
                if (price == 0) {
                    w.pass(1);
                } else {
                    w.subscribe(price);
                }
            }
        });
    }

    private void subscriberTerm() {
        b.term("At most 10 subscribers are numbered from 0, each of the year in which it signed, with a price, 2 to 9999, "
                + "half of which, cut, is paid then.").by(() -> {
            b.answers(0, NEW, w -> w.subscribe(100));
            b.answers(9, Scenes.subscribers(9), w -> w.subscribe(100));
            b.refuses(STATE, Scenes.subscribers(10), w -> w.subscribe(100));
            b.takes(2, 9999, NEW, (w, price) -> w.subscribe(price));
            int[][] rows = {{2, 1}, {3, 1}, {4, 2}, {5, 2}, {9998, 4999}, {9999, 4999}};
            for (int[] row : rows) {
                b.answers(row[1], w -> w.subscribe(row[0]), w -> w.money());
                b.answers(row[0] - row[1], w -> w.subscribe(row[0]), w -> w.owes(0));
            }
            b.answers(1, waiting(2, 0, 9999).then(w -> w.deliver(0)), w -> w.deliver(1));
        });
    }

    private void deliveryTerm() {
        b.term("A globe on which a sheet of each plate is pasted, be its gore lost or not, can be delivered, once: to the "
                + "one who waits and signed in the earliest year, of several with the greatest price, then the lowest "
                + "number; the rest is paid then.").by(() -> {
            Boundaries.Scene almost = Scenes.plates(5).then(Scenes.globes(1)).then(w -> {
                w.subscribe(100);
                for (int plate = 1; plate < 6; plate++) {
                    w.paste(0, w.print(plate));
                }
            });
            b.refuses(UNDOABLE, almost, w -> w.deliver(0));
            b.answers(0, almost.then(w -> w.paste(0, w.print(0))), w -> w.deliver(0));
            b.answers(0, almost.then(w -> w.paste(0, w.print(0))).then(w -> w.loseGore(0, 3)), w -> w.deliver(0));
            b.refuses(UNDOABLE, waiting(100, 100).then(w -> w.deliver(0)), w -> w.deliver(0));
            b.answers(1, waiting(100, 100).then(w -> w.deliver(0)), w -> w.deliver(1));
            // The year counts ahead of the price, and the price ahead of the number.
            b.answers(0, waiting(2, 0, 9999), w -> w.deliver(0));
            b.answers(1, waiting(100, 101, 100), w -> w.deliver(0));
            b.answers(2, waiting(100, 99, 101, 101, 101), w -> w.deliver(0));
            b.answers(0, waiting(100, 100, 99), w -> w.deliver(0));
            b.answers(1, waiting(5, 6, 0, 7).then(w -> w.giveUp(0)), w -> w.deliver(0));
            b.answers(2, waiting(5, 6, 0, 7).then(w -> w.giveUp(0)).then(w -> w.deliver(0)), w -> w.deliver(1));
            b.answers(0, waiting(101).then(w -> w.deliver(0)), w -> w.owes(0));
            b.answers(101, waiting(101).then(w -> w.deliver(0)), w -> w.money());
        });
    }

    private void giveUpAndMoneyTerms() {
        b.term("One who waits can give up, and gets back what was paid.").by(() -> {
            int[][] rows = {{2, 1}, {3, 1}, {9998, 4999}, {9999, 4999}};
            for (int[] row : rows) {
                b.answers(row[1], w -> w.subscribe(row[0]), w -> w.giveUp(0));
            }
            b.refuses(UNDOABLE, waiting(100).then(w -> w.giveUp(0)), w -> w.giveUp(0));
            b.refuses(UNDOABLE, waiting(100).then(w -> w.deliver(0)), w -> w.giveUp(0));
            b.refuses(NONE, waiting(100).then(w -> w.giveUp(0)), w -> w.deliver(0));
        });
        b.term("The money is the sum of all that.").by(() -> {
            b.answers(0, NEW, w -> w.money());
            b.answers(50 + 1 + 4999, waiting(101, 2, 9999), w -> w.money());
            b.answers(50 + 1 + 9999, waiting(101, 2, 9999).then(w -> w.deliver(0)), w -> w.money());
            b.answers(50 + 9999, waiting(101, 2, 9999).then(w -> w.deliver(0)).then(w -> w.giveUp(1)), w -> w.money());
            b.answers(0, waiting(101).then(w -> w.giveUp(0)), w -> w.money());
            Boundaries.Scene dearest = w -> {
                for (int i = 0; i < 10; i++) {
                    w.subscribe(9999);
                }
            };
            b.answers(49990, dearest, w -> w.money());
        });
    }

    private void subscribe() {
        b.promise(42, "Adds a subscriber.", "Returns its number.").by(() -> {
            for (int i = 0; i < 10; i++) {
                b.answers(i, Scenes.subscribers(i), w -> w.subscribe(9999));
            }
        });
        b.promise(42, "Throws `IllegalArgumentException` if a number is out of range").by(() -> {
            b.takes(2, 9999, Scenes.subscribers(9), (w, price) -> w.subscribe(price));
            b.takes(2, 9999, RICH, (w, price) -> w.subscribe(price));
        });
        b.promise(42, "Throws `IllegalStateException` if there are 10").by(() -> {
            b.answers(9, Scenes.subscribers(9), w -> w.subscribe(2));
            b.refuses(STATE, Scenes.subscribers(10), w -> w.subscribe(2));
            // One who gave up or was served keeps the number.
            b.refuses(STATE, Scenes.subscribers(10).then(w -> w.giveUp(9)), w -> w.subscribe(2));
            b.refuses(STATE, finished(1).then(Scenes.subscribers(10)).then(w -> w.deliver(0)), w -> w.subscribe(2));
        });
    }

    private void giveUp() {
        b.promise(43, "Lets a subscriber give up.", "Returns what is paid back.").by(() -> {
            b.answers(50, w -> w.subscribe(101), w -> w.giveUp(0));
            b.answers(4999, RICH, w -> w.giveUp(2));
            b.answers(101, RICH.then(w -> w.giveUp(2)), w -> w.money());
        });
        b.promise(43, NO_SUCH_SUBSCRIBER).by(() -> {
            b.finds(0, NEW, (w, subscriber) -> w.giveUp(subscriber));
            b.finds(Scenes.RICH_SUBSCRIBERS, RICH, (w, subscriber) -> w.giveUp(subscriber));
            b.finds(10, Scenes.subscribers(10), (w, subscriber) -> w.giveUp(subscriber));
        });
        b.promise(43, "Throws `UnsupportedOperationException` if it waits no more").by(() -> {
            b.refuses(UNDOABLE, RICH, w -> w.giveUp(0));
            b.refuses(UNDOABLE, RICH, w -> w.giveUp(1));
            b.answers(4999, RICH, w -> w.giveUp(2));
            b.refuses(UNDOABLE, RICH.then(w -> w.giveUp(2)), w -> w.giveUp(2));
        });
    }

    private void deliver() {
        b.promise(44, "Delivers a globe.", "Returns the subscriber.").by(() -> {
            b.answers(0, waiting(100, 50), w -> w.deliver(1));
            b.answers(1, waiting(50, 100), w -> w.deliver(1));
            b.answers(2, RICH.then(w -> w.paste(1, w.print(1))), w -> w.deliver(1));
        });
        b.promise(44, "Throws `IndexOutOfBoundsException` if there is no such globe").by(() -> {
            b.finds(0, Scenes.plates(1).then(w -> w.subscribe(2)), (w, globe) -> w.deliver(globe));
            b.finds(Scenes.RICH_GLOBES, RICH, (w, globe) -> w.deliver(globe));
        });
        b.promise(44, "Throws `UnsupportedOperationException` if it was delivered, or some plate's gore is not pasted").by(() -> {
            b.refuses(UNDOABLE, RICH, w -> w.deliver(2));
            b.refuses(UNDOABLE, RICH, w -> w.deliver(1));
            // Both gores of globe 0 are pasted, of which one is lost.
            b.answers(2, RICH, w -> w.deliver(0));
            b.refuses(UNDOABLE, Scenes.globes(1).then(w -> w.subscribe(2)), w -> w.deliver(0));
            Boundaries.Scene lastLess = Scenes.plates(5).then(Scenes.globes(1)).then(w -> {
                w.subscribe(100);
                for (int plate = 0; plate < 5; plate++) {
                    w.paste(0, w.print(plate));
                }
            });
            b.refuses(UNDOABLE, lastLess, w -> w.deliver(0));
            b.answers(0, lastLess.then(w -> w.paste(0, w.print(5))), w -> w.deliver(0));
        });
        b.promise(44, "Throws `NoSuchElementException` if nobody waits").by(() -> {
            b.refuses(NONE, finished(1), w -> w.deliver(0));
            b.refuses(NONE, waiting(100).then(w -> w.giveUp(0)), w -> w.deliver(0));
            b.refuses(NONE, waiting(100).then(w -> w.deliver(0)), w -> w.deliver(1));
            b.answers(1, waiting(100).then(w -> w.deliver(0)).then(w -> w.subscribe(2)), w -> w.deliver(1));
        });
    }

    private void owes() {
        b.promise(45, "Returns what a subscriber owes.", "Returns the price less what was paid; 0 for one who gave up.").by(() -> {
            b.answers(51, w -> w.subscribe(101), w -> w.owes(0));
            b.answers(1, w -> w.subscribe(2), w -> w.owes(0));
            b.answers(0, RICH, w -> w.owes(0));
            b.answers(0, RICH, w -> w.owes(1));
            b.answers(5000, RICH, w -> w.owes(2));
            b.leaves(RICH, w -> w.owes(2));
        });
        b.promise(45, NO_SUCH_SUBSCRIBER).by(() -> {
            b.finds(0, NEW, (w, subscriber) -> w.owes(subscriber));
            b.finds(Scenes.RICH_SUBSCRIBERS, RICH, (w, subscriber) -> w.owes(subscriber));
        });
    }

    private void money() {
        b.promise(46, "Returns the money.", "Returns the sum.").by(() -> {
            b.answers(0, NEW, w -> w.money());
            b.answers(101 + 4999, RICH, w -> w.money());
            b.answers(2 + 3 + 4 + 5 + 6 + 7, Scenes.FULL, w -> w.money());
            b.leaves(RICH, w -> w.money());
        });
    }
}
