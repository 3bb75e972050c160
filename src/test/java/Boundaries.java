import java.util.ArrayList;
import java.util.Collections;
import java.util.HashSet;
import java.util.IdentityHashMap;
import java.util.List;
import java.util.Map;
import java.util.Set;

/**
 * Tests that are told by the sentences of the document that they are for. A refused call must throw
 * the due exception and change nothing: what can be asked of the workshop and done with it afterwards
 * has to be what it is without that call.
 */
final class Boundaries {
    /** What is done with a new workshop ahead of the call that a test is about. */
    interface Scene {
        void set(Globewright w);

        default Scene then(Scene next) {
            return w -> {
                set(w);
                next.set(w);
            };
        }
    }

    interface Call {
        Object on(Globewright w);
    }

    interface NumberCall {
        Object on(Globewright w, int number);
    }

    private final Checks checks = new Checks();
    private final DocumentText document = new DocumentText();
    private final Set<String> tested = new HashSet<>();
    /** A scene is looked at once, however many calls are refused in it. */
    private final Map<Scene, List<String>> looks = new IdentityHashMap<>();

    /** The sentences, under one heading, that one test is for. */
    final class Sentences {
        private final String heading;
        private final List<String> texts;

        private Sentences(String heading, String... texts) {
            this.heading = heading;
            this.texts = List.of(texts);
        }

        void by(Runnable test) {
            for (String text : texts) {
                checks.holds(document.has(heading, text), "the document does not say: " + text);
                tested.add(heading + ": " + text);
            }
            int madeAhead = checks.made();
            test.run();
            checks.holds(checks.made() > madeAhead, "nothing is checked here");
        }
    }

    Sentences beginning(String... texts) {
        return new Sentences("What it is", texts);
    }

    Sentences term(String... texts) {
        return new Sentences("Terms", texts);
    }

    Sentences promise(int number, String... texts) {
        return new Sentences("Promise " + number, texts);
    }

    /** In this scene the call answers just this. */
    void answers(Object due, Scene scene, Call call) {
        Object actual;
        try {
            actual = call.on(made(scene));
        } catch (RuntimeException e) {
            actual = e;
        }
        checks.holds(due.equals(actual), "answered " + actual + ", due is " + due);
    }

    /** In this scene the call throws just this, and changes nothing. */
    void refuses(Class<? extends RuntimeException> due, Scene scene, Call call) {
        checks.fails(due, () -> call.on(made(scene)));
        leaves(scene, call);
    }

    /** In this scene the call throws one of the document's exceptions, and changes nothing. */
    void refuses(Scene scene, Call call) {
        RuntimeException thrown = null;
        try {
            call.on(made(scene));
        } catch (RuntimeException e) {
            thrown = e;
        }
        checks.holds(thrown != null && Checks.isOwn(thrown), "threw " + thrown);
        leaves(scene, call);
    }

    /** In this scene the call, be it refused or not, changes nothing. */
    void leaves(Scene scene, Call call) {
        List<String> without = looks.computeIfAbsent(scene, key -> Everything.toldBy(() -> made(key)));
        List<String> behind = Everything.toldBy(() -> madeBehind(scene, call));
        checks.holds(behind.equals(without), "something has changed: " + firstDifference(without, behind));
    }

    /** The numbers from least to most are taken, and those beside and far from them are no arguments. */
    void takes(int least, int most, Scene scene, NumberCall call) {
        takesFrom(least, most, IllegalArgumentException.class, scene, call);
    }

    /** There are things with the numbers 0 to count - 1, and none with another number. */
    void finds(int count, Scene scene, NumberCall call) {
        takesFrom(0, count - 1, IndexOutOfBoundsException.class, scene, call);
    }

    private void takesFrom(int least, int most, Class<? extends RuntimeException> due, Scene scene, NumberCall call) {
        for (int right : new int[] {least, most}) {
            if (least <= most) {
                checks.holds(!isThrown(due, made(scene), call, right), "threw " + due + " for " + right);
            }
        }
        for (int wrong : new int[] {least - 1, most + 1, Integer.MIN_VALUE, Integer.MAX_VALUE}) {
            refuses(due, scene, w -> call.on(w, wrong));
        }
    }

    private static boolean isThrown(Class<? extends RuntimeException> due, Globewright w, NumberCall call, int number) {
        try {
            call.on(w, number);
        } catch (RuntimeException e) {
            return due.isInstance(e);
        }
        return false;
    }

    private static Globewright made(Scene scene) {
        Globewright w = new Globewright();
        scene.set(w);
        return w;
    }

    private static Globewright madeBehind(Scene scene, Call call) {
        Globewright w = made(scene);
        try {
            call.on(w);
        } catch (RuntimeException e) {
            return w;
        }
        return w;
    }

    private static String firstDifference(List<String> without, List<String> behind) {
        for (int i = 0; i < Math.min(without.size(), behind.size()); i++) {
            if (!without.get(i).equals(behind.get(i))) {
                return without.get(i) + " became " + behind.get(i);
            }
        }
        return "none";
    }

    /** Each sentence that has to be tested must have been, so that none of the document is passed over. */
    void end() {
        List<String> missing = new ArrayList<>(document.toBeTested());
        missing.removeAll(tested);
        Collections.sort(missing);
        for (String sentence : missing) {
            System.out.println("has no test: " + sentence);
        }
        checks.holds(missing.isEmpty(), missing.size() + " sentences have no test");
        checks.end();
    }
}
