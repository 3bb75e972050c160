/** Spheres: promises 4 to 9 and 47. */
final class SpheresBoundaries {
    private static final Class<IllegalArgumentException> ARGUMENT = IllegalArgumentException.class;
    private static final Class<UnsupportedOperationException> UNDOABLE = UnsupportedOperationException.class;
    private static final Class<IllegalStateException> STATE = IllegalStateException.class;
    private static final Boundaries.Scene NEW = Scenes.NEW;
    private static final String DIRECTIONS = "ewnsud";
    private static final String NO_SUCH_SPHERE = "Throws `IndexOutOfBoundsException` if there is no such sphere";

    private final Boundaries b;

    private SpheresBoundaries(Boundaries b) {
        this.b = b;
    }

    static void check(Boundaries b) {
        SpheresBoundaries part = new SpheresBoundaries(b);
        part.terms();
        part.sphere();
        part.load();
        part.lean();
        part.balance();
        part.leanBits();
        part.scaleBits();
        part.balancedShare();
    }

    /** A sphere with these weights in the directions e, w, n, s, u and d. */
    private static Boundaries.Scene loaded(int... weights) {
        return Scenes.spheres(1).then(w -> {
            for (int i = 0; i < weights.length; i++) {
                for (int left = weights[i]; left > 0; left -= 999) {
                    w.load(0, DIRECTIONS.charAt(i), Math.min(left, 999));
                }
            }
        });
    }

    private void terms() {
        b.term("At most 6 are numbered from 0, each with a circumference, 100 to 9999.").by(() -> {
            b.answers(0, NEW, w -> w.sphere(500));
            b.answers(5, Scenes.spheres(5), w -> w.sphere(500));
            b.refuses(STATE, Scenes.spheres(6), w -> w.sphere(500));
            b.takes(100, 9999, NEW, (w, circumference) -> w.sphere(circumference));
        });
        b.term("Lumps of plaster and shot lie in the directions 'e', 'w', 'n', 's', 'u' and 'd', two by two opposite, "
                + "each adding what it weighs; the lean along an axis is what lies in 'e', 'n' or 'u' less what lies "
                + "opposite.").by(() -> {
            for (char direction : DIRECTIONS.toCharArray()) {
                b.answers(1998, Scenes.spheres(1).then(w -> w.load(0, direction, 999)), w -> w.load(0, direction, 999));
            }
            Boundaries.Scene loaded = loaded(999, 1, 2, 1000, 30, 30);
            b.answers(998, loaded, w -> w.lean(0, 'e'));
            b.answers(-998, loaded, w -> w.lean(0, 'n'));
            b.answers(0, loaded, w -> w.lean(0, 'u'));
        });
        b.term("A sphere stops anywhere if no lean is other than 0.").by(() -> {
            Boundaries.Scene plate = Scenes.plates(1);
            b.answers(0, plate.then(loaded()), w -> w.globe(0));
            b.answers(0, plate.then(loaded(5, 5, 6, 6, 7, 7)), w -> w.globe(0));
            for (int i = 0; i < DIRECTIONS.length(); i++) {
                int[] weights = {5, 5, 6, 6, 7, 7};
                weights[i]++;
                b.refuses(UNDOABLE, plate.then(loaded(weights)), w -> w.globe(0));
                b.answers(0.0f, loaded(weights), w -> w.balancedShare());
            }
            // Two leans that are as great as each other don't make up for each other.
            b.refuses(UNDOABLE, plate.then(loaded(1, 0, 0, 1)), w -> w.globe(0));
            b.answers(0.0f, loaded(0, 1, 1, 0, 1, 0), w -> w.balancedShare());
            b.answers(1.0f, loaded(5, 5, 6, 6, 7, 7), w -> w.balancedShare());
        });
        b.term("To balance it puts as much shot as that needs, in the lighter direction of each axis.").by(() -> {
            int[][] rows = {{1, 0, 998, 999, 3, 3}, {0, 999, 2, 1, 0, 1}, {5, 6, 7, 7, 9, 8}};
            for (int[] weights : rows) {
                for (int i = 0; i < DIRECTIONS.length(); i++) {
                    char direction = DIRECTIONS.charAt(i);
                    int heavier = Math.max(weights[i], weights[i ^ 1]);
                    b.answers(heavier + 1, loaded(weights).then(w -> w.balance(0)), w -> w.load(0, direction, 1));
                }
            }
        });
    }

    private void sphere() {
        b.promise(4, "Adds a sphere.", "Returns its number.").by(() -> {
            for (int i = 0; i < 6; i++) {
                b.answers(i, Scenes.spheres(i), w -> w.sphere(100));
            }
        });
        b.promise(4, "Throws `IllegalArgumentException` if a number is out of range").by(() ->
            b.takes(100, 9999, Scenes.spheres(5), (w, circumference) -> w.sphere(circumference)));
        b.promise(4, "Throws `IllegalStateException` if there are 6").by(() -> {
            b.answers(5, Scenes.spheres(5), w -> w.sphere(9999));
            b.refuses(STATE, Scenes.spheres(6), w -> w.sphere(9999));
            b.refuses(STATE, Scenes.globes(6), w -> w.sphere(100));
        });
    }

    private void load() {
        b.promise(5, "Puts weight on a sphere that is on no globe.", "Returns what lies there then.").by(() -> {
            b.answers(1, loaded(), w -> w.load(0, 'e', 1));
            b.answers(7, loaded(0, 0, 0, 6, 0, 0), w -> w.load(0, 's', 1));
            b.answers(1, loaded(5, 5, 5, 0, 5, 5), w -> w.load(0, 's', 1));
        });
        b.promise(5, "- `weight`: the weight, 1 to 999").by(() ->
            b.takes(1, 999, loaded(), (w, weight) -> w.load(0, 'd', weight)));
        b.promise(5, NO_SUCH_SPHERE).by(() -> {
            b.finds(0, NEW, (w, sphere) -> w.load(sphere, 'e', 1));
            b.finds(Scenes.RICH_SPHERES, Scenes.RICH, (w, sphere) -> w.load(sphere, 'e', 1));
        });
        b.promise(5, "Throws `IllegalArgumentException` if there is no such direction, or the weight is out of range")
                .by(() -> {
            Boundaries.Scene one = loaded();
            for (char wrong : "EWNSUDabcfmotvxz ".toCharArray()) {
                b.refuses(ARGUMENT, one, w -> w.load(0, wrong, 1));
            }
            for (char wrong : new char[] {0, (char) (128 + 'e'), (char) (256 + 'e'), (char) 65535}) {
                b.refuses(ARGUMENT, one, w -> w.load(0, wrong, 1));
            }
            for (char right : DIRECTIONS.toCharArray()) {
                b.takes(1, 999, one, (w, weight) -> w.load(0, right, weight));
            }
        });
        b.promise(5, "Throws `UnsupportedOperationException` if it is on a globe").by(() -> {
            Boundaries.Scene globe = Scenes.globes(1).then(w -> w.sphere(500));
            for (char direction : DIRECTIONS.toCharArray()) {
                b.refuses(UNDOABLE, globe, w -> w.load(0, direction, 1));
                b.answers(1, globe, w -> w.load(1, direction, 1));
            }
        });
    }

    private void lean() {
        b.promise(6, "Returns the lean of a sphere.", "Returns the lean.").by(() -> {
            b.answers(0, loaded(), w -> w.lean(0, 'e'));
            b.answers(1, loaded(1), w -> w.lean(0, 'e'));
            b.answers(-1, loaded(0, 1), w -> w.lean(0, 'e'));
            b.leaves(Scenes.RICH, w -> w.lean(2, 'e'));
        });
        b.promise(6, "- `axis`: 'e', 'n' or 'u'", "Throws `IllegalArgumentException` if there is no such axis").by(() -> {
            Boundaries.Scene leaning = loaded(1, 2, 3, 5, 7, 11);
            b.answers(-1, leaning, w -> w.lean(0, 'e'));
            b.answers(-2, leaning, w -> w.lean(0, 'n'));
            b.answers(-4, leaning, w -> w.lean(0, 'u'));
            for (char wrong : "wsdENUmotv ".toCharArray()) {
                b.refuses(ARGUMENT, leaning, w -> w.lean(0, wrong));
            }
            for (char wrong : new char[] {0, (char) (128 + 'n'), (char) (256 + 'u'), (char) 65535}) {
                b.refuses(ARGUMENT, leaning, w -> w.lean(0, wrong));
            }
        });
        b.promise(6, NO_SUCH_SPHERE).by(() -> {
            b.finds(0, NEW, (w, sphere) -> w.lean(sphere, 'e'));
            b.finds(Scenes.RICH_SPHERES, Scenes.RICH, (w, sphere) -> w.lean(sphere, 'u'));
        });
    }

    private void balance() {
        b.promise(7, "Balances a sphere.", "Returns how much shot that takes.").by(() -> {
            b.answers(0, loaded(), w -> w.balance(0));
            b.answers(0, loaded(4, 4, 5, 5, 6, 6), w -> w.balance(0));
            for (int i = 0; i < DIRECTIONS.length(); i++) {
                int[] weights = {4, 4, 5, 5, 6, 6};
                weights[i]++;
                b.answers(1, loaded(weights), w -> w.balance(0));
                b.answers(0, loaded(weights).then(w -> w.balance(0)), w -> w.balance(0));
            }
            b.answers(3 * 1998, loaded(1998, 0, 0, 1998, 1998), w -> w.balance(0));
            b.answers(0, loaded(1998, 0, 0, 1998, 1998).then(w -> w.balance(0)), w -> w.balance(0));
            b.answers(0, Scenes.globes(1), w -> w.balance(0));
            b.leaves(Scenes.globes(1), w -> w.balance(0));
        });
        b.promise(7, NO_SUCH_SPHERE).by(() -> {
            b.finds(0, NEW, (w, sphere) -> w.balance(sphere));
            b.finds(Scenes.RICH_SPHERES, Scenes.RICH, (w, sphere) -> w.balance(sphere));
        });
    }

    private void leanBits() {
        b.promise(8, "Returns the lean along 'e' divided by that along 'n', as the bits of a double.",
                "Returns the bits, as Double.doubleToLongBits tells them, of both leans converted to double and divided.")
                .by(() -> {
            int[] leans = {0, 1, -1, 2, 3, -3, 999, -999, 1998};
            for (int east : leans) {
                for (int north : leans) {
                    Boundaries.Scene leaning = loaded(Math.max(east, 0), Math.max(-east, 0), Math.max(north, 0),
                            Math.max(-north, 0), 900);
                    b.answers(Double.doubleToLongBits((double) east / (double) north), leaning, w -> w.leanBits(0));
                }
            }
            // The leans count, not what lies in 'e' and 'n', and a lean of 0 divides as any other.
            b.answers(Double.doubleToLongBits(1.0 / 3.0), loaded(5, 4, 9, 6), w -> w.leanBits(0));
            b.answers(0x7ff8000000000000L, loaded(5, 5, 9, 9), w -> w.leanBits(0));
            b.answers(0x7ff0000000000000L, loaded(6, 5, 9, 9), w -> w.leanBits(0));
            b.answers(0xfff0000000000000L, loaded(5, 6, 9, 9), w -> w.leanBits(0));
            b.answers(0L, loaded(5, 5, 9, 8), w -> w.leanBits(0));
            b.answers(0x8000000000000000L, loaded(5, 5, 8, 9), w -> w.leanBits(0));
            b.leaves(Scenes.RICH, w -> w.leanBits(2));
        });
        b.promise(8, NO_SUCH_SPHERE).by(() -> {
            b.finds(0, NEW, (w, sphere) -> w.leanBits(sphere));
            b.finds(Scenes.RICH_SPHERES, Scenes.RICH, (w, sphere) -> w.leanBits(sphere));
        });
    }

    private void scaleBits() {
        b.promise(9, "Returns the scale of a sphere, as the bits of a float.",
                "- `length`: what the circumference stands for, any number",
                "Returns the bits, as Float.floatToIntBits tells them, of the circumference and the length converted to "
                + "float and divided.").by(() -> {
            int[] lengths = {Integer.MIN_VALUE, Integer.MIN_VALUE + 1, -16777217, -9999, -3, -1, 0, 1, 3, 100, 9999,
                16777215, 16777216, 16777217, 16777219, Integer.MAX_VALUE - 1, Integer.MAX_VALUE};
            for (int circumference : new int[] {100, 4321, 9999}) {
                for (int length : lengths) {
                    b.answers(Float.floatToIntBits((float) circumference / (float) length),
                            w -> w.sphere(circumference), w -> w.scaleBits(0, length));
                }
            }
            b.answers(0x7f800000, Scenes.spheres(1), w -> w.scaleBits(0, 0));
            b.answers(0x3f800000, Scenes.spheres(1), w -> w.scaleBits(0, 500));
            b.leaves(Scenes.RICH, w -> w.scaleBits(2, -3));
        });
        b.promise(9, NO_SUCH_SPHERE).by(() -> {
            b.finds(0, NEW, (w, sphere) -> w.scaleBits(sphere, 1));
            b.finds(Scenes.RICH_SPHERES, Scenes.RICH, (w, sphere) -> w.scaleBits(sphere, 0));
        });
    }

    private void balancedShare() {
        b.promise(47, "Returns the share of spheres that stop anywhere.",
                "Returns their number divided by that of all, both converted to float.").by(() -> {
            for (int all = 1; all <= 6; all++) {
                for (int leaning = 0; leaning <= all; leaning++) {
                    int count = leaning;
                    Boundaries.Scene scene = Scenes.spheres(all).then(w -> {
                        for (int i = 0; i < count; i++) {
                            w.load(i, "ewnsud".charAt(i), 1);
                        }
                    });
                    b.answers((float) (all - leaning) / (float) all, scene, w -> w.balancedShare());
                }
            }
            b.leaves(Scenes.RICH, w -> w.balancedShare());
        });
        b.promise(47, "Throws `ArithmeticException` if there are none").by(() -> {
            b.refuses(ArithmeticException.class, NEW, w -> w.balancedShare());
            b.answers(1.0f, Scenes.spheres(1), w -> w.balancedShare());
        });
    }
}
