import java.util.NoSuchElementException;

/** Promises 42 to 46: subscribers and what they pay. */
public final class TradeTest {
    private static final Class<IndexOutOfBoundsException> INDEX = IndexOutOfBoundsException.class;
    private static final Class<UnsupportedOperationException> UNDOABLE = UnsupportedOperationException.class;
    private static final Class<NoSuchElementException> NONE = NoSuchElementException.class;
    private static final Checks check = new Checks();

    public static void main(String[] args) {
        subscribe();
        giveUp();
        owesAndMoney();
        deliver();
        deliverInTurn();
        check.end();
    }

    private static void subscribe() {
        Globewright w = new Globewright();
        for (int wrong : new int[] {1, 10000, 0, -2, Integer.MIN_VALUE, Integer.MAX_VALUE}) {
            check.fails(IllegalArgumentException.class, () -> w.subscribe(wrong));
        }
        int[] right = {2, 9999, 3, 9998};
        for (int i = 0; i < 10; i++) {
            check.equal(w.subscribe(right[i % 4]), i);
        }
        check.fails(IllegalStateException.class, () -> w.subscribe(2));
        check.fails(IllegalArgumentException.class, () -> w.subscribe(1));
        w.giveUp(0);
        check.fails(IllegalStateException.class, () -> w.subscribe(2));
        check.equal(w.money(), 2 * 1 + 3 * 4999 + 2 * 1 + 2 * 4999);
    }

    private static void giveUp() {
        Globewright w = new Globewright();
        check.fails(INDEX, () -> w.giveUp(0));
        w.subscribe(101);
        w.subscribe(3);
        for (int wrong : Checks.NO_NUMBERS) {
            check.fails(INDEX, () -> w.giveUp(wrong));
        }
        check.fails(INDEX, () -> w.giveUp(2));
        check.equal(w.giveUp(0), 50);
        check.fails(UNDOABLE, () -> w.giveUp(0));
        check.equal(w.money(), 1);
        check.equal(w.giveUp(1), 1);
        check.equal(w.money(), 0);
        w.subscribe(500);
        finish(w, 0);
        check.equal(w.deliver(0), 2);
        check.fails(UNDOABLE, () -> w.giveUp(2));
        check.equal(w.money(), 500);
    }

    private static void owesAndMoney() {
        Globewright w = new Globewright();
        check.equal(w.money(), 0);
        check.fails(INDEX, () -> w.owes(0));
        w.subscribe(101);
        w.subscribe(2);
        w.subscribe(9998);
        for (int wrong : Checks.NO_NUMBERS) {
            check.fails(INDEX, () -> w.owes(wrong));
        }
        check.fails(INDEX, () -> w.owes(3));
        check.equal(w.owes(0), 51);
        check.equal(w.owes(1), 1);
        check.equal(w.owes(2), 4999);
        check.equal(w.money(), 50 + 1 + 4999);
        w.giveUp(2);
        check.equal(w.owes(2), 0);
        check.equal(w.money(), 51);
        finish(w, 0);
        check.equal(w.deliver(0), 0);
        check.equal(w.owes(0), 0);
        check.equal(w.owes(1), 1);
        check.equal(w.money(), 102);
        check.yes(w.isTrue());
    }

    private static void deliver() {
        Globewright w = new Globewright();
        check.fails(INDEX, () -> w.deliver(0));
        w.plate(100);
        w.plate(100);
        for (int i = 0; i < 4; i++) {
            w.sphere(500);
            w.globe(i);
            w.print(0);
            w.print(1);
        }
        for (int wrong : Checks.NO_NUMBERS) {
            check.fails(INDEX, () -> w.deliver(wrong));
        }
        check.fails(INDEX, () -> w.deliver(4));
        check.fails(UNDOABLE, () -> w.deliver(0));
        w.paste(0, 0);
        check.fails(UNDOABLE, () -> w.deliver(0));
        w.paste(0, 1);
        check.fails(NONE, () -> w.deliver(0));
        w.subscribe(10);
        w.subscribe(20);
        // What failed has not been delivered, and a lost gore is no hindrance.
        w.loseGore(0, 0);
        check.equal(w.deliver(0), 1);
        check.fails(UNDOABLE, () -> w.deliver(0));
        w.paste(1, 3);
        check.fails(UNDOABLE, () -> w.deliver(1));
        w.paste(1, 2);
        check.equal(w.deliver(1), 0);
        w.paste(2, 4);
        w.paste(2, 5);
        check.fails(NONE, () -> w.deliver(2));
        check.fails(UNDOABLE, () -> w.deliver(1));
        check.fails(UNDOABLE, () -> w.deliver(3));
    }

    private static void deliverInTurn() {
        Globewright w = new Globewright();
        w.subscribe(50);
        w.subscribe(90);
        w.subscribe(90);
        w.subscribe(70);
        w.pass(1);
        w.subscribe(999);
        w.pass(1);
        w.subscribe(2000);
        w.subscribe(3000);
        w.giveUp(3);
        int[] due = {1, 2, 0, 4, 6, 5};
        int money = w.money();
        int[] rest = {45, 45, 25, 500, 1500, 1000};
        for (int i = 0; i < due.length; i++) {
            finish(w, i);
            check.equal(w.deliver(i), due[i]);
            money += rest[i];
            check.equal(w.money(), money);
            check.equal(w.owes(due[i]), 0);
        }
    }

    /** Makes the globe of that number, of one plate. */
    private static void finish(Globewright w, int globe) {
        if (globe == 0) {
            w.plate(100);
        }
        w.sphere(500);
        w.globe(globe);
        w.paste(globe, w.print(0));
    }
}
