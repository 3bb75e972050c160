import java.util.ArrayList;
import java.util.HashMap;
import java.util.HashSet;
import java.util.List;
import java.util.Map;
import java.util.NoSuchElementException;
import java.util.Set;
import java.util.TreeMap;
import java.util.TreeSet;

/**
 * The document read once more, with the Java library and without a thought for speed or room:
 * RandomRunsTest lets it answer beside Globewright. It must stay apart from Globewright's code.
 */
final class PlainWorkshop {
    record Fact(int longitude, int known, int falseFrom) { }

    static final class Ball {
        int circumference;
        Map<Character, Integer> lying = new HashMap<>();
        boolean used;

        int along(char plus, char minus) {
            return lying.getOrDefault(plus, 0) - lying.getOrDefault(minus, 0);
        }

        boolean rests() {
            return along('e', 'w') == 0 && along('n', 's') == 0 && along('u', 'd') == 0;
        }
    }

    static final class Copper {
        int width;
        int madeIn;
        Map<Integer, Integer> places = new TreeMap<>();
        List<Set<Integer>> states = new ArrayList<>();
        List<Integer> changeYears = new ArrayList<>();
        int pulls;
    }

    static final class Paper {
        int plate;
        int changesAhead;
        Map<Integer, Integer> places;
        boolean used;
        int grown;
        Set<Integer> lost = new HashSet<>();
        boolean gone;
    }

    static final class Ware {
        int ball;
        Map<Integer, Paper> papers = new TreeMap<>();
        boolean sold;
    }

    static final class Buyer {
        int price;
        int year;
        int paid;
        char state = 'w';
    }

    final List<Ball> balls = new ArrayList<>();
    final List<Fact> facts = new ArrayList<>();
    final List<Copper> coppers = new ArrayList<>();
    final List<Paper> papers = new ArrayList<>();
    final List<Ware> wares = new ArrayList<>();
    final List<List<int[]>> isles = new ArrayList<>();
    final List<int[]> stars = new ArrayList<>();
    final List<Buyer> buyers = new ArrayList<>();
    final Map<Integer, TreeMap<Integer, Integer>> told = new HashMap<>();
    final Map<String, Integer> claims = new HashMap<>();
    int now = 1600;
    int wetness = 100;

    private static void index(int number, List<?> list) {
        if (number < 0 || number >= list.size()) {
            throw new IndexOutOfBoundsException();
        }
    }

    private static void range(boolean isFine) {
        if (!isFine) {
            throw new IllegalArgumentException();
        }
    }

    private static void doable(boolean isFine) {
        if (!isFine) {
            throw new UnsupportedOperationException();
        }
    }

    private static void room(boolean isFine) {
        if (!isFine) {
            throw new IllegalStateException();
        }
    }

    private static void found(boolean isFine) {
        if (!isFine) {
            throw new NoSuchElementException();
        }
    }

    private static boolean in(int number, int least, int most) {
        return least <= number && number <= most;
    }

    static int plainSine(int angle) {
        if (angle < 0) {
            return -plainSine(-angle);
        }
        TreeMap<Integer, Integer> known = new TreeMap<>(Map.of(0, 0, 100, 174, 200, 342, 300, 500, 400, 643,
                500, 766, 600, 866, 700, 940, 800, 985, 900, 1000));
        int below = known.floorKey(angle);
        int above = known.ceilingKey(angle);
        int hundredths = angle - below;
        return known.get(below) + (known.get(above) - known.get(below)) * hundredths / 100;
    }

    private static final int[] COSINES = new int[1801];

    static {
        for (int angle = 0; angle <= 1800; angle++) {
            COSINES[angle] = plainSine(900 - angle);
        }
    }

    private static int plainArc(long number) {
        for (int angle = 0; angle <= 1800; angle++) {
            if (COSINES[angle] <= number) {
                return angle;
            }
        }
        return 1800;
    }

    int sine(int angle) {
        range(in(angle, -900, 900));
        return plainSine(angle);
    }

    int arc(int number) {
        range(in(number, -1000, 1000));
        return plainArc(number);
    }

    int sphere(int circumference) {
        range(in(circumference, 100, 9999));
        room(balls.size() < 6);
        Ball ball = new Ball();
        ball.circumference = circumference;
        balls.add(ball);
        return balls.size() - 1;
    }

    int load(int sphere, char direction, int weight) {
        index(sphere, balls);
        range("ewnsud".contains("" + direction) && in(weight, 1, 999));
        Ball ball = balls.get(sphere);
        doable(!ball.used);
        return ball.lying.merge(direction, weight, Integer::sum);
    }

    int lean(int sphere, char axis) {
        index(sphere, balls);
        range("enu".contains("" + axis));
        return balls.get(sphere).along(axis, axis == 'e' ? 'w' : axis == 'n' ? 's' : 'd');
    }

    int balance(int sphere) {
        index(sphere, balls);
        Ball ball = balls.get(sphere);
        int shot = 0;
        for (String pair : List.of("ew", "ns", "ud")) {
            int lean = ball.along(pair.charAt(0), pair.charAt(1));
            ball.lying.merge(pair.charAt(lean > 0 ? 1 : 0), Math.abs(lean), Integer::sum);
            shot += Math.abs(lean);
        }
        return shot;
    }

    long leanBits(int sphere) {
        index(sphere, balls);
        double east = balls.get(sphere).along('e', 'w');
        double north = balls.get(sphere).along('n', 's');
        return Double.doubleToLongBits(east / north);
    }

    int scaleBits(int sphere, int length) {
        index(sphere, balls);
        return Float.floatToIntBits((float) balls.get(sphere).circumference / (float) length);
    }

    int pass(int years) {
        range(in(years, 1, 99));
        room(now + years <= 1999);
        return now += years;
    }

    int fact(int longitude, int known, int falseFrom) {
        range(in(longitude, 0, 3599) && in(known, 1400, 1999));
        range(falseFrom == -1 || in(falseFrom, known, 1999));
        room(facts.size() < 24);
        facts.add(new Fact(longitude, known, falseFrom));
        return facts.size() - 1;
    }

    int plate(int width) {
        range(in(width, 10, 999));
        room(coppers.size() < 6 && wares.size() == 0);
        Copper copper = new Copper();
        copper.width = width;
        copper.madeIn = now;
        copper.states.add(Set.of());
        coppers.add(copper);
        return coppers.size() - 1;
    }

    int cut(int plate, int fact, int place) {
        index(plate, coppers);
        index(fact, facts);
        Copper copper = coppers.get(plate);
        range(in(place, 0, copper.width - 1));
        doable(!copper.places.containsKey(fact));
        Fact added = facts.get(fact);
        doable(now >= added.known);
        if (added.falseFrom != added.known) {
            doable(added.falseFrom < 0 || now < added.falseFrom);
        }
        room(copper.changeYears.size() < 30);
        copper.places.put(fact, place);
        return changed(copper);
    }

    int hammer(int plate, int fact) {
        index(plate, coppers);
        index(fact, facts);
        Copper copper = coppers.get(plate);
        doable(copper.places.containsKey(fact));
        room(copper.changeYears.size() < 30);
        copper.places.remove(fact);
        return changed(copper);
    }

    private int changed(Copper copper) {
        copper.changeYears.add(now);
        copper.states.add(Set.copyOf(copper.places.keySet()));
        return copper.places.size();
    }

    boolean shows(int plate, int fact) {
        index(plate, coppers);
        index(fact, facts);
        return coppers.get(plate).places.containsKey(fact);
    }

    int states(int plate) {
        index(plate, coppers);
        return coppers.get(plate).states.size();
    }

    int sharpen(int plate) {
        index(plate, coppers);
        int pulls = coppers.get(plate).pulls;
        coppers.get(plate).pulls = 0;
        return pulls;
    }

    int print(int plate) {
        index(plate, coppers);
        Copper copper = coppers.get(plate);
        doable(copper.pulls < 8);
        room(papers.size() < 40);
        copper.pulls++;
        Paper paper = new Paper();
        paper.plate = plate;
        paper.changesAhead = copper.changeYears.size();
        paper.places = new TreeMap<>(copper.places);
        papers.add(paper);
        return papers.size() - 1;
    }

    boolean isPrinted(int sheet, int fact) {
        index(sheet, papers);
        index(fact, facts);
        return papers.get(sheet).places.containsKey(fact);
    }

    int growth(int thousandths) {
        range(in(thousandths, 0, 200));
        int before = wetness;
        wetness = thousandths;
        return before;
    }

    int globe(int sphere) {
        index(sphere, balls);
        doable(!balls.get(sphere).used && balls.get(sphere).rests() && coppers.size() > 0);
        room(wares.size() < 8);
        Ware ware = new Ware();
        ware.ball = sphere;
        balls.get(sphere).used = true;
        wares.add(ware);
        return wares.size() - 1;
    }

    int paste(int globe, int sheet) {
        index(globe, wares);
        index(sheet, papers);
        Ware ware = wares.get(globe);
        Paper paper = papers.get(sheet);
        doable(!paper.used && !ware.sold && !ware.papers.containsKey(paper.plate));
        ware.papers.put(paper.plate, paper);
        paper.used = true;
        paper.grown = wetness;
        return gapOf(ware, paper);
    }

    private int beginning(Ware ware, int plate) {
        return plate * balls.get(ware.ball).circumference / coppers.size();
    }

    private int gapOf(Ware ware, Paper paper) {
        boolean isLast = paper.plate == coppers.size() - 1;
        int end = isLast ? balls.get(ware.ball).circumference : beginning(ware, paper.plate + 1);
        int width = coppers.get(paper.plate).width;
        return end - beginning(ware, paper.plate) - (width + width * paper.grown / 1000);
    }

    private Paper paperAt(int globe, int plate) {
        index(globe, wares);
        index(plate, coppers);
        return wares.get(globe).papers.get(plate);
    }

    int gap(int globe, int plate) {
        Paper paper = paperAt(globe, plate);
        found(paper != null);
        return gapOf(wares.get(globe), paper);
    }

    int placeOf(int globe, int fact) {
        index(globe, wares);
        index(fact, facts);
        for (Paper paper : wares.get(globe).papers.values()) {
            if (seen(paper).contains(fact)) {
                int printed = coppers.get(paper.plate).width - 1 - paper.places.get(fact);
                return beginning(wares.get(globe), paper.plate) + printed + printed * paper.grown / 1000;
            }
        }
        throw new NoSuchElementException();
    }

    int offOf(int globe, int fact) {
        int off = placeOf(globe, fact);
        int circumference = balls.get(wares.get(globe).ball).circumference;
        off -= facts.get(fact).longitude * circumference / 3600;
        while (2 * off > circumference) {
            off -= circumference;
        }
        while (2 * off <= -circumference) {
            off += circumference;
        }
        return off;
    }

    private static Set<Integer> seen(Paper paper) {
        Set<Integer> seen = new TreeSet<>();
        if (!paper.gone) {
            seen.addAll(paper.places.keySet());
            seen.removeAll(paper.lost);
        }
        return seen;
    }

    boolean lose(int globe, int plate, int fact) {
        Paper paper = paperAt(globe, plate);
        index(fact, facts);
        found(paper != null);
        doable(!paper.gone && !paper.lost.contains(fact));
        paper.lost.add(fact);
        return paper.places.containsKey(fact);
    }

    int loseGore(int globe, int plate) {
        Paper paper = paperAt(globe, plate);
        found(paper != null);
        doable(!paper.gone);
        int count = seen(paper).size();
        paper.gone = true;
        return count;
    }

    private TreeSet<Integer> possibleYears(int globe) {
        TreeSet<Integer> years = new TreeSet<>();
        for (int year = 1600; year <= now; year++) {
            years.add(year);
        }
        for (Paper paper : wares.get(globe).papers.values()) {
            if (!paper.gone) {
                years.retainAll(possibleYears(paper));
            }
        }
        return years;
    }

    private Set<Integer> possibleYears(Paper paper) {
        Copper copper = coppers.get(paper.plate);
        Set<Integer> years = new HashSet<>();
        for (int i = 0; i < copper.states.size(); i++) {
            int from = i == 0 ? copper.madeIn : copper.changeYears.get(i - 1);
            int until = i == copper.changeYears.size() ? now : copper.changeYears.get(i);
            Set<Integer> state = new HashSet<>(copper.states.get(i));
            state.removeAll(paper.lost);
            for (int year = from; year <= until && state.equals(seen(paper)); year++) {
                years.add(year);
            }
        }
        return years;
    }

    int years(int globe) {
        index(globe, wares);
        return possibleYears(globe).size();
    }

    int yearOf(int globe, boolean isFirst) {
        index(globe, wares);
        TreeSet<Integer> years = possibleYears(globe);
        found(!years.isEmpty());
        return isFirst ? years.first() : years.last();
    }

    boolean isPirate(int globe, int other) {
        index(globe, wares);
        index(other, wares);
        range(globe != other);
        Set<Integer> both = seenTraps(globe);
        both.retainAll(seenTraps(other));
        return !both.isEmpty();
    }

    private Set<Integer> seenTraps(int globe) {
        Set<Integer> traps = new HashSet<>();
        for (Paper paper : wares.get(globe).papers.values()) {
            for (int fact : seen(paper)) {
                if (facts.get(fact).known == facts.get(fact).falseFrom) {
                    traps.add(fact);
                }
            }
        }
        return traps;
    }

    int isle() {
        room(isles.size() < 6);
        isles.add(new ArrayList<>());
        return isles.size() - 1;
    }

    int source(int isle, int longitude, int error) {
        index(isle, isles);
        range(in(longitude, 0, 3599) && in(error, 0, 900));
        int all = 0;
        for (List<int[]> list : isles) {
            all += list.size();
        }
        room(all < 30);
        isles.get(isle).add(new int[] {longitude, error});
        return isles.get(isle).size();
    }

    private int[] allowing(int isle) {
        int[] counts = new int[3600];
        for (int[] source : isles.get(isle)) {
            for (int off = -source[1]; off <= source[1]; off++) {
                counts[(source[0] + off + 3600) % 3600]++;
            }
        }
        return counts;
    }

    int agreeing(int isle) {
        index(isle, isles);
        int most = 0;
        for (int count : allowing(isle)) {
            most = Math.max(most, count);
        }
        return most;
    }

    int best(int isle) {
        index(isle, isles);
        found(!isles.get(isle).isEmpty());
        int most = agreeing(isle);
        int[] counts = allowing(isle);
        int longitude = 0;
        while (counts[longitude] != most) {
            longitude++;
        }
        return longitude;
    }

    int news(int region, int year, int owner) {
        range(in(region, 0, 9) && in(year, 1400, 1999) && in(owner, 0, 9));
        Integer before = told.computeIfAbsent(region, r -> new TreeMap<>()).put(year, owner);
        return before == null ? -1 : before;
    }

    int claim(int customer, int region, int owner) {
        range(in(customer, 0, 3) && in(region, 0, 9) && in(owner, -1, 9));
        Integer before = claims.put(customer + " " + region, owner);
        return before == null ? -1 : before;
    }

    int colour(int customer, int region, int year) {
        range(in(customer, 0, 3) && in(region, 0, 9) && in(year, 1400, 1999));
        int claimed = claims.getOrDefault(customer + " " + region, -1);
        if (claimed >= 0) {
            return claimed;
        }
        Map.Entry<Integer, Integer> latest = told.getOrDefault(region, new TreeMap<>()).floorEntry(year);
        found(latest != null);
        return latest.getValue();
    }

    int star(int longitude, int latitude, int epoch) {
        range(in(longitude, 0, 3599) && in(latitude, -900, 900) && in(epoch, 1400, 1999));
        room(stars.size() < 12);
        stars.add(new int[] {longitude, epoch});
        return stars.size() - 1;
    }

    int starAt(int star, int year, boolean isOutside) {
        index(star, stars);
        range(in(year, 1400, 1999));
        int longitude = (3600 + stars.get(star)[0] + (year - stars.get(star)[1]) / 7) % 3600;
        return isOutside && longitude != 0 ? 3600 - longitude : longitude;
    }

    int day(int latitude, int declination) {
        range(in(latitude, -900, 900) && in(declination, -300, 300));
        long above = (long) plainSine(latitude) * plainSine(declination);
        long below = (long) COSINES[Math.abs(latitude)] * COSINES[Math.abs(declination)];
        int half;
        if (below == 0) {
            half = above < 0 ? 0 : above > 0 ? 1800 : 900;
        } else {
            half = plainArc(-above * 1000 / below);
        }
        return half * 8 / 10;
    }

    int distance(int latitude, int longitude, int toLatitude, int toLongitude) {
        range(in(latitude, -900, 900) && in(longitude, 0, 3599));
        range(in(toLatitude, -900, 900) && in(toLongitude, 0, 3599));
        int apart = Math.abs(longitude - toLongitude);
        if (apart > 1800) {
            apart = 3600 - apart;
        }
        long sines = (long) plainSine(latitude) * plainSine(toLatitude) / 1000;
        long cosines = (long) COSINES[Math.abs(latitude)] * COSINES[Math.abs(toLatitude)] / 1000;
        return plainArc(sines + cosines * COSINES[apart] / 1000);
    }

    int subscribe(int price) {
        range(in(price, 2, 9999));
        room(buyers.size() < 10);
        Buyer buyer = new Buyer();
        buyer.price = price;
        buyer.year = now;
        buyer.paid = price / 2;
        buyers.add(buyer);
        return buyers.size() - 1;
    }

    int giveUp(int subscriber) {
        index(subscriber, buyers);
        Buyer buyer = buyers.get(subscriber);
        doable(buyer.state == 'w');
        buyer.state = 'g';
        int back = buyer.paid;
        buyer.paid = 0;
        return back;
    }

    int deliver(int globe) {
        index(globe, wares);
        Ware ware = wares.get(globe);
        doable(!ware.sold && ware.papers.size() == coppers.size());
        List<Integer> waiting = new ArrayList<>();
        for (int i = 0; i < buyers.size(); i++) {
            if (buyers.get(i).state == 'w') {
                waiting.add(i);
            }
        }
        found(!waiting.isEmpty());
        waiting.sort((a, b) -> {
            Buyer one = buyers.get(a);
            Buyer two = buyers.get(b);
            return one.year != two.year ? one.year - two.year : one.price != two.price ? two.price - one.price : a - b;
        });
        Buyer buyer = buyers.get(waiting.get(0));
        buyer.state = 's';
        buyer.paid = buyer.price;
        ware.sold = true;
        return waiting.get(0);
    }

    int owes(int subscriber) {
        index(subscriber, buyers);
        Buyer buyer = buyers.get(subscriber);
        return buyer.state == 'g' ? 0 : buyer.price - buyer.paid;
    }

    int money() {
        int sum = 0;
        for (Buyer buyer : buyers) {
            sum += buyer.paid;
        }
        return sum;
    }

    float balancedShare() {
        float resting = 0;
        for (Ball ball : balls) {
            resting += ball.rests() ? 1 : 0;
        }
        if (balls.isEmpty()) {
            throw new ArithmeticException();
        }
        return resting / balls.size();
    }

    double meanGap() {
        double sum = 0;
        double count = 0;
        for (Ware ware : wares) {
            for (Paper paper : ware.papers.values()) {
                sum += gapOf(ware, paper);
                count++;
            }
        }
        if (count == 0) {
            throw new ArithmeticException();
        }
        return sum / count;
    }

    long checksum() {
        List<Integer> parts = new ArrayList<>();
        for (Copper copper : coppers) {
            parts.add(copper.places.size());
            parts.add(copper.states.size());
        }
        for (Paper paper : papers) {
            parts.add(paper.plate);
        }
        for (Ware ware : wares) {
            for (Paper paper : ware.papers.values()) {
                parts.add(gapOf(ware, paper));
            }
        }
        parts.add(money());
        long sum = 7;
        for (int part : parts) {
            sum = sum * 31 + part;
        }
        return sum;
    }

    boolean isTrue() {
        for (int i = 0; i < wares.size(); i++) {
            boolean isFresh = true;
            for (Paper paper : wares.get(i).papers.values()) {
                isFresh &= paper.changesAhead == coppers.get(paper.plate).changeYears.size();
            }
            if (isFresh && !possibleYears(i).contains(now)) {
                return false;
            }
        }
        return true;
    }
}
