import java.util.ArrayList;
import java.util.Collections;
import java.util.List;
import java.util.function.Function;
import java.util.function.Supplier;

/**
 * All that can be asked of a workshop and done with it, as groups of calls. Each group is for a
 * workshop of its own, as many of the calls change it, and is short enough that the calls ahead of
 * it, up to 300, and its own are no more than 512.
 */
final class Everything {
    // One more than there can be of each, so that what a refused call adds is seen.
    private static final int SPHERES = 7;
    private static final int FACTS = 25;
    private static final int PLATES = 7;
    private static final int SHEETS = 41;
    private static final int GLOBES = 7;
    private static final int ISLES = 7;
    private static final int STARS = 13;
    private static final int SUBSCRIBERS = 11;
    private static final int[] YEARS = {1400, 1600, 1999};
    private static final List<List<Probe>> GROUPS = groups();

    private record Probe(String name, Function<Globewright, Object> call) {
        String on(Globewright w) {
            try {
                return name + " = " + call.apply(w);
            } catch (RuntimeException e) {
                return name + " throws " + e.getClass().getSimpleName();
            }
        }
    }

    private static final class Group {
        final List<Probe> probes = new ArrayList<>();

        void add(String name, Function<Globewright, Object> call) {
            probes.add(new Probe(name, call));
        }
    }

    private Everything() {
    }

    /** What each group of calls is answered by a workshop that is made for it. */
    static List<String> toldBy(Supplier<Globewright> maker) {
        List<String> told = new ArrayList<>();
        for (List<Probe> group : GROUPS) {
            Globewright w = maker.get();
            for (Probe probe : group) {
                told.add(probe.on(w));
            }
        }
        return told;
    }

    private static List<List<Probe>> groups() {
        List<List<Probe>> groups = new ArrayList<>();
        groups.add(spheresAsked());
        groups.add(spheresLoaded());
        groups.add(platesAsked());
        groups.add(sheetsMade());
        for (int sheet = 0; sheet < SHEETS; sheet += 5) {
            groups.add(sheetsAsked(sheet));
        }
        groups.add(globesAsked());
        for (int i = 0; i < PLATES; i++) {
            groups.add(platesChanged(i));
            groups.add(newGlobe(i));
        }
        for (int i = 0; i < GLOBES; i++) {
            groups.add(factsFound(i));
            groups.add(globesPasted(i));
            groups.add(globesLost(i));
        }
        groups.add(isles());
        groups.add(borders(0));
        groups.add(borders(5));
        groups.add(stars());
        groups.add(traded());
        groups.add(givenUp());
        groups.addAll(reversed(groups));
        return groups;
    }

    /** A call of a group may hide from the next one what has changed; from the other end it does not. */
    private static List<List<Probe>> reversed(List<List<Probe>> groups) {
        List<List<Probe>> reversed = new ArrayList<>();
        for (List<Probe> group : groups) {
            List<Probe> copy = new ArrayList<>(group);
            Collections.reverse(copy);
            reversed.add(copy);
        }
        return reversed;
    }

    private static List<Probe> spheresAsked() {
        Group group = new Group();
        for (int i = 0; i < SPHERES; i++) {
            int sphere = i;
            for (char axis : "enu".toCharArray()) {
                group.add("lean " + sphere + " " + axis, w -> w.lean(sphere, axis));
            }
            group.add("leanBits " + sphere, w -> w.leanBits(sphere));
            group.add("scaleBits " + sphere, w -> w.scaleBits(sphere, 1000));
        }
        group.add("balancedShare", w -> w.balancedShare());
        group.add("money", w -> w.money());
        group.add("isTrue", w -> w.isTrue());
        for (int i = 0; i < SPHERES; i++) {
            int sphere = i;
            group.add("globe " + sphere, w -> w.globe(sphere));
        }
        return group.probes;
    }

    private static List<Probe> spheresLoaded() {
        Group group = new Group();
        for (int i = 0; i < SPHERES; i++) {
            int sphere = i;
            for (char direction : "ewnsud".toCharArray()) {
                group.add("load " + sphere + " " + direction, w -> w.load(sphere, direction, 1));
            }
            group.add("balance " + sphere, w -> w.balance(sphere));
        }
        group.add("sphere", w -> w.sphere(100));
        group.add("pass", w -> w.pass(1));
        group.add("growth", w -> w.growth(0));
        return group.probes;
    }

    private static List<Probe> platesAsked() {
        Group group = new Group();
        for (int i = 0; i < PLATES; i++) {
            int plate = i;
            group.add("states " + plate, w -> w.states(plate));
            group.add("sharpen " + plate, w -> w.sharpen(plate));
            for (int f = 0; f < FACTS; f++) {
                int fact = f;
                group.add("shows " + plate + " " + fact, w -> w.shows(plate, fact));
            }
        }
        group.add("plate", w -> w.plate(10));
        group.add("fact", w -> w.fact(0, 1500, -1));
        return group.probes;
    }

    private static List<Probe> platesChanged(int plate) {
        Group group = new Group();
        for (int f = 0; f < FACTS; f++) {
            int fact = f;
            group.add("hammer " + plate + " " + fact, w -> w.hammer(plate, fact));
            group.add("cut " + plate + " " + fact, w -> w.cut(plate, fact, 0));
        }
        return group.probes;
    }

    private static List<Probe> sheetsMade() {
        Group group = new Group();
        group.add("checksum", w -> w.checksum());
        for (int time = 0; time < 9; time++) {
            for (int i = 0; i < PLATES; i++) {
                int plate = i;
                group.add("print " + plate, w -> w.print(plate));
            }
        }
        return group.probes;
    }

    private static List<Probe> sheetsAsked(int from) {
        Group group = new Group();
        for (int i = from; i < from + 5; i++) {
            int sheet = i;
            for (int f = 0; f < FACTS; f++) {
                int fact = f;
                group.add("isPrinted " + sheet + " " + fact, w -> w.isPrinted(sheet, fact));
            }
        }
        return group.probes;
    }

    private static List<Probe> globesAsked() {
        Group group = new Group();
        group.add("meanGap", w -> w.meanGap());
        for (int i = 0; i < GLOBES; i++) {
            int globe = i;
            group.add("years " + globe, w -> w.years(globe));
            group.add("yearOf first " + globe, w -> w.yearOf(globe, true));
            group.add("yearOf last " + globe, w -> w.yearOf(globe, false));
            for (int j = 0; j < GLOBES; j++) {
                int other = j;
                group.add("gap " + globe + " " + other, w -> w.gap(globe, other));
                group.add("isPirate " + globe + " " + other, w -> w.isPirate(globe, other));
            }
        }
        return group.probes;
    }

    private static List<Probe> factsFound(int globe) {
        Group group = new Group();
        for (int f = 0; f < FACTS; f++) {
            int fact = f;
            group.add("placeOf " + globe + " " + fact, w -> w.placeOf(globe, fact));
            group.add("offOf " + globe + " " + fact, w -> w.offOf(globe, fact));
        }
        return group.probes;
    }

    private static List<Probe> globesPasted(int globe) {
        Group group = new Group();
        for (int s = 0; s < SHEETS; s++) {
            int sheet = s;
            group.add("paste " + globe + " " + sheet, w -> w.paste(globe, sheet));
        }
        return group.probes;
    }

    private static List<Probe> globesLost(int globe) {
        Group group = new Group();
        for (int p = 0; p < PLATES; p++) {
            int plate = p;
            for (int f = 0; f < FACTS; f++) {
                int fact = f;
                group.add("lose " + globe + " " + plate + " " + fact, w -> w.lose(globe, plate, fact));
            }
            group.add("loseGore " + globe + " " + plate, w -> w.loseGore(globe, plate));
        }
        return group.probes;
    }

    /** Where the facts of a plate stand is seen on a globe alone. */
    private static List<Probe> newGlobe(int plate) {
        Group group = new Group();
        group.add("a new globe of plate " + plate, w -> {
            int globe = w.globe(w.sphere(9999));
            w.paste(globe, w.print(plate));
            StringBuilder places = new StringBuilder();
            for (int fact = 0; fact < FACTS; fact++) {
                places.append(' ').append(placeOnGlobe(w, globe, fact));
            }
            return places;
        });
        return group.probes;
    }

    private static String placeOnGlobe(Globewright w, int globe, int fact) {
        try {
            return w.placeOf(globe, fact) + "/" + w.offOf(globe, fact);
        } catch (RuntimeException e) {
            return "none";
        }
    }

    private static List<Probe> isles() {
        Group group = new Group();
        for (int i = 0; i < ISLES; i++) {
            int isle = i;
            group.add("agreeing " + isle, w -> w.agreeing(isle));
            group.add("best " + isle, w -> w.best(isle));
        }
        for (int i = 0; i < ISLES; i++) {
            int isle = i;
            group.add("source " + isle, w -> w.source(isle, 0, 0));
        }
        group.add("isle", w -> w.isle());
        return group.probes;
    }

    private static List<Probe> borders(int from) {
        Group group = new Group();
        for (int r = from; r < from + 5; r++) {
            int region = r;
            for (int c = 0; c < 4; c++) {
                int customer = c;
                for (int year : YEARS) {
                    group.add("colour " + customer + " " + region + " " + year, w -> w.colour(customer, region, year));
                }
                group.add("claim " + customer + " " + region, w -> w.claim(customer, region, 0));
            }
            for (int year : YEARS) {
                group.add("news " + region + " " + year, w -> w.news(region, year, 0));
            }
        }
        return group.probes;
    }

    private static List<Probe> stars() {
        Group group = new Group();
        for (int i = 0; i < STARS; i++) {
            int star = i;
            for (int year : YEARS) {
                group.add("starAt " + star + " " + year, w -> w.starAt(star, year, false));
                group.add("starAt, outside, " + star + " " + year, w -> w.starAt(star, year, true));
            }
        }
        group.add("star", w -> w.star(0, 0, 1600));
        return group.probes;
    }

    private static List<Probe> traded() {
        Group group = new Group();
        for (int i = 0; i < SUBSCRIBERS; i++) {
            int subscriber = i;
            group.add("owes " + subscriber, w -> w.owes(subscriber));
        }
        for (int i = 0; i < GLOBES; i++) {
            int globe = i;
            group.add("deliver " + globe, w -> w.deliver(globe));
        }
        group.add("money", w -> w.money());
        return group.probes;
    }

    private static List<Probe> givenUp() {
        Group group = new Group();
        for (int i = 0; i < SUBSCRIBERS; i++) {
            int subscriber = i;
            group.add("giveUp " + subscriber, w -> w.giveUp(subscriber));
        }
        group.add("money", w -> w.money());
        group.add("subscribe", w -> w.subscribe(2));
        return group.probes;
    }
}
