import java.util.ArrayList;
import java.util.NoSuchElementException;

/** A workshop of globes; ../shared/DOC.md tells what each call answers. */
public final class Globewright {
    private static final int QUARTER = 900;
    private static final int HALF_TURN = 1800;
    private static final int FULL_TURN = 3600;
    private static final int WHOLE_SINE = 1000;
    private static final int[] SINES = {0, 174, 342, 500, 643, 766, 866, 940, 985, 1000};
    private static final int MOST_DECLINATION = 300;

    private static final int START_YEAR = 1600;
    private static final int OLDEST_YEAR = 1400;
    private static final int LAST_YEAR = 1999;
    private static final int MOST_YEARS_AT_ONCE = 99;
    private static final int YEARS_PER_DEGREE_TENTH = 7;

    private static final String DIRECTIONS = "ewnsud";
    private static final String AXES = "enu";
    private static final int EAST = 0;
    private static final int NORTH = 1;
    private static final int MOST_SPHERES = 6;
    private static final int LEAST_CIRCUMFERENCE = 100;
    private static final int MOST_CIRCUMFERENCE = 9999;
    private static final int MOST_WEIGHT = 999;

    private static final int MOST_FACTS = 24;
    private static final int MOST_PLATES = 6;
    private static final int LEAST_WIDTH = 10;
    private static final int MOST_WIDTH = 999;
    private static final int MOST_CHANGES = 30;
    private static final int SHEETS_TILL_WORN = 8;
    private static final int MOST_SHEETS = 40;
    private static final int FIRST_GROWTH = 100;
    private static final int MOST_GROWTH = 200;
    private static final int MOST_GLOBES = 8;

    private static final int MOST_ISLES = 6;
    private static final int MOST_SOURCES = 30;
    private static final int MOST_ERROR = 900;
    private static final int REGIONS = 10;
    private static final int CUSTOMERS = 4;
    private static final int MOST_OWNER = 9;
    private static final int MOST_STARS = 12;
    private static final int MOST_SUBSCRIBERS = 10;
    private static final int LEAST_PRICE = 2;
    private static final int MOST_PRICE = 9999;

    /** For what a call has to tell or to take where there is none: no place, no owner, no year. */
    private static final int NONE = -1;

    private static final int DOUBLE_FRACTION = 52;
    private static final int DOUBLE_BIAS = 1023;
    private static final long DOUBLE_SIGN = 1L << 63;
    private static final long DOUBLE_INFINITY = 0x7ff0000000000000L;
    private static final long DOUBLE_NAN = 0x7ff8000000000000L;
    private static final int FLOAT_FRACTION = 23;
    private static final int FLOAT_BIAS = 127;
    private static final int FLOAT_SIGN = 1 << 31;
    private static final int FLOAT_INFINITY = 0x7f800000;
    /** Far above the halvings or doublings that a lean or a scale can need (some thirty). */
    private static final int MOST_SCALINGS = 64;

    private final ArrayList<Sphere> spheres;
    private final ArrayList<Fact> facts;
    private final ArrayList<Plate> plates;
    private final ArrayList<Sheet> sheets;
    private final ArrayList<Globe> globes;
    private final ArrayList<Source> sources;
    private final ArrayList<Star> stars;
    private final ArrayList<Subscriber> subscribers;
    /** By region and year; each holds the owner plus 1, so that a new row of zeros tells of none. */
    private final int[][] toldOwners;
    /** By customer and region, the owner plus 1 too. */
    private final int[][] claimedOwners;
    private int isles;
    private int now;
    private int paperGrowth;

    public Globewright() {
        spheres = new ArrayList<Sphere>();
        facts = new ArrayList<Fact>();
        plates = new ArrayList<Plate>();
        sheets = new ArrayList<Sheet>();
        globes = new ArrayList<Globe>();
        sources = new ArrayList<Source>();
        stars = new ArrayList<Star>();
        subscribers = new ArrayList<Subscriber>();
        toldOwners = new int[REGIONS][LAST_YEAR - OLDEST_YEAR + 1];
        claimedOwners = new int[CUSTOMERS][REGIONS];
        now = START_YEAR;
        paperGrowth = FIRST_GROWTH;
    }

    // Angles

    public int sine(int angle) throws IllegalArgumentException {
        requireWithin(angle, -QUARTER, QUARTER);
        return sineOf(angle);
    }

    public int arc(int number) throws IllegalArgumentException {
        requireWithin(number, -WHOLE_SINE, WHOLE_SINE);
        return arcOf(number);
    }

    private static int sineOf(int angle) {
        return angle < 0 ? -sineFromZero(-angle) : sineFromZero(angle);
    }

    private static int sineFromZero(int angle) {
        int step = angle / 100;
        if (step < 0 || step >= SINES.length - 1) {
            return WHOLE_SINE;
        }
        return SINES[step] + (SINES[step + 1] - SINES[step]) * (angle % 100) / 100;
    }

    private static int cosineOf(int angle) {
        return sineOf(QUARTER - (angle < 0 ? -angle : angle));
    }

    /** Cosines never rise from 0 to 1800, so the angles that are too small can be passed in halving steps. */
    private static int arcOf(long number) {
        int passed = 0;
        for (int step = 1024; step > 0; step /= 2) {
            if (passed + step <= HALF_TURN && cosineOf(passed + step - 1) > number) {
                passed += step;
            }
        }
        return passed;
    }

    /** The shorter way round from one longitude to another. */
    private static int wayRound(int longitude, int other) {
        int difference = Math.abs(longitude - other);
        return Math.min(difference, FULL_TURN - difference);
    }

    // Spheres

    public int sphere(int circumference) throws IllegalArgumentException, IllegalStateException {
        requireWithin(circumference, LEAST_CIRCUMFERENCE, MOST_CIRCUMFERENCE);
        requireRoom(spheres.size() < MOST_SPHERES);
        spheres.add(new Sphere(circumference));
        return spheres.size() - 1;
    }

    public int load(int sphere, char direction, int weight)
            throws IndexOutOfBoundsException, IllegalArgumentException, UnsupportedOperationException {
        Sphere loaded = sphereAt(sphere);
        int place = DIRECTIONS.indexOf(direction);
        requireWithin(place, 0, loaded.weights.length - 1);
        requireWithin(weight, 1, MOST_WEIGHT);
        requireDoable(!loaded.isOnGlobe);
        loaded.weights[place] += weight;
        return loaded.weights[place];
    }

    public int lean(int sphere, char axis) throws IndexOutOfBoundsException, IllegalArgumentException {
        Sphere leaning = sphereAt(sphere);
        int number = AXES.indexOf(axis);
        requireWithin(number, 0, Sphere.AXIS_COUNT - 1);
        return leaning.leanAlong(number);
    }

    public int balance(int sphere) throws IndexOutOfBoundsException {
        Sphere balanced = sphereAt(sphere);
        int shot = 0;
        for (int axis = 0; axis < Sphere.AXIS_COUNT; axis++) {
            shot += balanced.evenOut(axis);
        }
        return shot;
    }

    public long leanBits(int sphere) throws IndexOutOfBoundsException {
        Sphere leaning = sphereAt(sphere);
        int east = leaning.leanAlong(EAST);
        int north = leaning.leanAlong(NORTH);
        long sign = (east < 0) != (north < 0) ? DOUBLE_SIGN : 0L;
        if (north == 0) {
            return east == 0 ? DOUBLE_NAN : sign | DOUBLE_INFINITY;
        }
        double ratio = (double) east / (double) north;
        return sign | bitsOf(ratio < 0.0 ? -ratio : ratio, DOUBLE_FRACTION, DOUBLE_BIAS);
    }

    public int scaleBits(int sphere, int length) throws IndexOutOfBoundsException {
        Sphere scaled = sphereAt(sphere);
        if (length == 0) {
            return FLOAT_INFINITY;
        }
        int sign = length < 0 ? FLOAT_SIGN : 0;
        float scale = (float) scaled.circumference / (float) length;
        return sign | (int) bitsOf(scale < 0.0f ? -scale : scale, FLOAT_FRACTION, FLOAT_BIAS);
    }

    /** The library's own bits of a number may not be asked here; doubling and halving lose none of them. */
    private static long bitsOf(double number, int fractionBits, int bias) {
        if (number == 0.0) {
            return 0L;
        }
        double part = number;
        long exponent = bias;
        for (int i = 0; i < MOST_SCALINGS && part >= 2.0; i++) {
            part = part / 2.0;
            exponent++;
        }
        for (int i = 0; i < MOST_SCALINGS && part < 1.0; i++) {
            part = part * 2.0;
            exponent--;
        }
        long one = 1L << fractionBits;
        return (exponent << fractionBits) + ((long) (part * (double) one) - one);
    }

    private Sphere sphereAt(int number) {
        requireNumber(number, spheres.size());
        return spheres.get(number);
    }

    // Years and facts

    public int pass(int years) throws IllegalArgumentException, IllegalStateException {
        requireWithin(years, 1, MOST_YEARS_AT_ONCE);
        requireRoom(now + years <= LAST_YEAR);
        now += years;
        return now;
    }

    public int fact(int longitude, int known, int falseFrom) throws IllegalArgumentException, IllegalStateException {
        requireLongitude(longitude);
        requireYear(known);
        if (falseFrom != NONE) {
            requireWithin(falseFrom, known, LAST_YEAR);
        }
        requireRoom(facts.size() < MOST_FACTS);
        facts.add(new Fact(longitude, known, falseFrom));
        return facts.size() - 1;
    }

    private Fact factAt(int number) {
        requireNumber(number, facts.size());
        return facts.get(number);
    }

    /** A set of facts is an int with one bit for each, as there are at most 24. */
    private static boolean holds(int setOfFacts, int fact) {
        return (setOfFacts >> fact & 1) == 1;
    }

    // Plates

    public int plate(int width) throws IllegalArgumentException, IllegalStateException {
        requireWithin(width, LEAST_WIDTH, MOST_WIDTH);
        requireRoom(plates.size() < MOST_PLATES);
        requireRoom(globes.isEmpty());
        plates.add(new Plate(plates.size(), width, now));
        return plates.size() - 1;
    }

    public int cut(int plate, int fact, int place) throws IndexOutOfBoundsException, IllegalArgumentException,
            UnsupportedOperationException, IllegalStateException {
        Plate target = plateAt(plate);
        Fact added = factAt(fact);
        requireWithin(place, 0, target.width - 1);
        requireDoable(!holds(target.latest.shown, fact) && added.isCutIn(now));
        return change(target, fact, place);
    }

    public int hammer(int plate, int fact)
            throws IndexOutOfBoundsException, UnsupportedOperationException, IllegalStateException {
        Plate target = plateAt(plate);
        factAt(fact);
        requireDoable(holds(target.latest.shown, fact));
        return change(target, fact, NONE);
    }

    public boolean shows(int plate, int fact) throws IndexOutOfBoundsException {
        Plate asked = plateAt(plate);
        factAt(fact);
        return holds(asked.latest.shown, fact);
    }

    public int states(int plate) throws IndexOutOfBoundsException {
        return plateAt(plate).stateCount;
    }

    public int sharpen(int plate) throws IndexOutOfBoundsException {
        Plate worn = plateAt(plate);
        int given = worn.sheetsGiven;
        worn.sheetsGiven = 0;
        return given;
    }

    private int change(Plate plate, int fact, int place) {
        requireRoom(plate.stateCount - 1 < MOST_CHANGES);
        plate.latest = new State(plate.latest, now, fact, place);
        plate.stateCount++;
        return plate.latest.factCount();
    }

    private Plate plateAt(int number) {
        requireNumber(number, plates.size());
        return plates.get(number);
    }

    // Sheets

    public int print(int plate)
            throws IndexOutOfBoundsException, UnsupportedOperationException, IllegalStateException {
        Plate printed = plateAt(plate);
        requireDoable(printed.sheetsGiven < SHEETS_TILL_WORN);
        requireRoom(sheets.size() < MOST_SHEETS);
        printed.sheetsGiven++;
        sheets.add(new Sheet(printed));
        return sheets.size() - 1;
    }

    public boolean isPrinted(int sheet, int fact) throws IndexOutOfBoundsException {
        Sheet asked = sheetAt(sheet);
        factAt(fact);
        return holds(asked.state.shown, fact);
    }

    public int growth(int thousandths) throws IllegalArgumentException {
        requireWithin(thousandths, 0, MOST_GROWTH);
        int before = paperGrowth;
        paperGrowth = thousandths;
        return before;
    }

    private Sheet sheetAt(int number) {
        requireNumber(number, sheets.size());
        return sheets.get(number);
    }

    // Globes

    public int globe(int sphere)
            throws IndexOutOfBoundsException, UnsupportedOperationException, IllegalStateException {
        Sphere carrier = sphereAt(sphere);
        requireDoable(!carrier.isOnGlobe && carrier.isBalanced() && !plates.isEmpty());
        requireRoom(globes.size() < MOST_GLOBES);
        carrier.isOnGlobe = true;
        globes.add(new Globe(carrier.circumference));
        return globes.size() - 1;
    }

    public int paste(int globe, int sheet) throws IndexOutOfBoundsException, UnsupportedOperationException {
        Globe target = globeAt(globe);
        Sheet pasted = sheetAt(sheet);
        int plate = pasted.plate.number;
        requireDoable(!pasted.isPasted && target.goreOf(plate) == null && !target.isDelivered);
        int begin = beginOfGore(target, plate);
        int room = beginOfGore(target, plate + 1) - begin;
        Gore gore = new Gore(pasted, paperGrowth, begin, room);
        target.setGore(plate, gore);
        pasted.isPasted = true;
        return gore.gapLeft;
    }

    public int gap(int globe, int plate) throws IndexOutOfBoundsException, NoSuchElementException {
        return pastedGore(globe, plate).gapLeft;
    }

    public int placeOf(int globe, int fact) throws IndexOutOfBoundsException, NoSuchElementException {
        Globe asked = globeAt(globe);
        factAt(fact);
        return placeOnGlobe(asked, fact);
    }

    public int offOf(int globe, int fact) throws IndexOutOfBoundsException, NoSuchElementException {
        Globe asked = globeAt(globe);
        Fact looked = factAt(fact);
        int place = placeOnGlobe(asked, fact);
        int circumference = asked.circumference;
        if (circumference <= 0) {
            return 0;
        }
        int off = Math.floorMod(place - looked.longitude * circumference / FULL_TURN, circumference);
        return 2 * off > circumference ? off - circumference : off;
    }

    /** The plates are counted anew each time: none can be added once there is a globe. */
    private int beginOfGore(Globe globe, int plate) {
        int count = plates.size();
        return count == 0 ? 0 : plate * globe.circumference / count;
    }

    private static int placeOnGlobe(Globe globe, int fact) {
        for (Gore gore : globe.gores) {
            if (gore != null && holds(gore.visibleFacts(), fact)) {
                return gore.begin + gore.placeOnSheet(fact);
            }
        }
        throw new NoSuchElementException();
    }

    private Gore pastedGore(int globe, int plate) {
        Globe asked = globeAt(globe);
        plateAt(plate);
        Gore gore = asked.goreOf(plate);
        if (gore == null) {
            throw new NoSuchElementException();
        }
        return gore;
    }

    private Globe globeAt(int number) {
        requireNumber(number, globes.size());
        return globes.get(number);
    }

    // Losses and dating

    public boolean lose(int globe, int plate, int fact)
            throws IndexOutOfBoundsException, NoSuchElementException, UnsupportedOperationException {
        factAt(fact);
        Gore gore = pastedGore(globe, plate);
        requireDoable(!gore.isLost && !holds(gore.lostFacts, fact));
        gore.lostFacts |= 1 << fact;
        return holds(gore.sheet.state.shown, fact);
    }

    public int loseGore(int globe, int plate)
            throws IndexOutOfBoundsException, NoSuchElementException, UnsupportedOperationException {
        Gore gore = pastedGore(globe, plate);
        requireDoable(!gore.isLost);
        int seen = Integer.bitCount(gore.visibleFacts());
        gore.isLost = true;
        return seen;
    }

    public int years(int globe) throws IndexOutOfBoundsException {
        Globe dated = globeAt(globe);
        int count = 0;
        for (int year = START_YEAR; year <= now; year++) {
            if (canBeOf(dated, year)) {
                count++;
            }
        }
        return count;
    }

    public int yearOf(int globe, boolean isFirst) throws IndexOutOfBoundsException, NoSuchElementException {
        Globe dated = globeAt(globe);
        int found = NONE;
        for (int year = START_YEAR; year <= now; year++) {
            if ((found == NONE || !isFirst) && canBeOf(dated, year)) {
                found = year;
            }
        }
        if (found == NONE) {
            throw new NoSuchElementException();
        }
        return found;
    }

    public boolean isPirate(int globe, int other) throws IndexOutOfBoundsException, IllegalArgumentException {
        Globe one = globeAt(globe);
        Globe another = globeAt(other);
        if (globe == other) {
            throw new IllegalArgumentException();
        }
        return (one.visibleFacts() & another.visibleFacts() & traps()) != 0;
    }

    private boolean canBeOf(Globe globe, int year) {
        for (Gore gore : globe.gores) {
            if (gore != null && !gore.isLost && !gore.canBeOf(year, now)) {
                return false;
            }
        }
        return true;
    }

    private int traps() {
        int found = 0;
        for (int i = 0; i < facts.size(); i++) {
            if (facts.get(i).isTrap()) {
                found |= 1 << i;
            }
        }
        return found;
    }

    // Sources

    public int isle() throws IllegalStateException {
        requireRoom(isles < MOST_ISLES);
        isles++;
        return isles - 1;
    }

    public int source(int isle, int longitude, int error)
            throws IndexOutOfBoundsException, IllegalArgumentException, IllegalStateException {
        requireNumber(isle, isles);
        requireLongitude(longitude);
        requireWithin(error, 0, MOST_ERROR);
        requireRoom(sources.size() < MOST_SOURCES);
        sources.add(new Source(isle, longitude, error));
        return sourceCount(isle);
    }

    public int agreeing(int isle) throws IndexOutOfBoundsException {
        requireNumber(isle, isles);
        return allowing(isle, bestLongitude(isle));
    }

    public int best(int isle) throws IndexOutOfBoundsException, NoSuchElementException {
        requireNumber(isle, isles);
        if (sourceCount(isle) == 0) {
            throw new NoSuchElementException();
        }
        return bestLongitude(isle);
    }

    /**
     * Going up from 0, more sources come to agree only where the room of one begins: so the least
     * best longitude is 0 or such a beginning, and no other needs to be looked at.
     */
    private int bestLongitude(int isle) {
        int best = 0;
        int most = allowing(isle, best);
        for (int i = 0; i < sources.size(); i++) {
            Source source = sources.get(i);
            int begin = Math.floorMod(source.longitude - source.error, FULL_TURN);
            int count = source.isle == isle ? allowing(isle, begin) : 0;
            if (count > most || count == most && begin < best) {
                best = begin;
                most = count;
            }
        }
        return best;
    }

    private int allowing(int isle, int longitude) {
        int count = 0;
        for (int i = 0; i < sources.size(); i++) {
            Source source = sources.get(i);
            if (source.isle == isle && wayRound(source.longitude, longitude) <= source.error) {
                count++;
            }
        }
        return count;
    }

    private int sourceCount(int isle) {
        int count = 0;
        for (int i = 0; i < sources.size(); i++) {
            if (sources.get(i).isle == isle) {
                count++;
            }
        }
        return count;
    }

    // Borders

    public int news(int region, int year, int owner) throws IllegalArgumentException {
        requireRegion(region);
        requireYear(year);
        requireWithin(owner, 0, MOST_OWNER);
        int before = toldOwners[region][year - OLDEST_YEAR] - 1;
        toldOwners[region][year - OLDEST_YEAR] = owner + 1;
        return before;
    }

    public int claim(int customer, int region, int owner) throws IllegalArgumentException {
        requireCustomer(customer);
        requireRegion(region);
        requireWithin(owner, NONE, MOST_OWNER);
        int before = claimedOwners[customer][region] - 1;
        claimedOwners[customer][region] = owner + 1;
        return before;
    }

    public int colour(int customer, int region, int year) throws IllegalArgumentException, NoSuchElementException {
        requireCustomer(customer);
        requireRegion(region);
        requireYear(year);
        int owner = claimedOwners[customer][region] - 1;
        for (int told = year; told >= OLDEST_YEAR && owner == NONE; told--) {
            owner = toldOwners[region][told - OLDEST_YEAR] - 1;
        }
        if (owner == NONE) {
            throw new NoSuchElementException();
        }
        return owner;
    }

    private static void requireRegion(int region) {
        requireWithin(region, 0, REGIONS - 1);
    }

    private static void requireCustomer(int customer) {
        requireWithin(customer, 0, CUSTOMERS - 1);
    }

    // Sky and questions

    public int star(int longitude, int latitude, int epoch) throws IllegalArgumentException, IllegalStateException {
        requireLongitude(longitude);
        requireLatitude(latitude);
        requireYear(epoch);
        requireRoom(stars.size() < MOST_STARS);
        stars.add(new Star(longitude, epoch));
        return stars.size() - 1;
    }

    public int starAt(int star, int year, boolean isOutside)
            throws IndexOutOfBoundsException, IllegalArgumentException {
        requireNumber(star, stars.size());
        requireYear(year);
        Star asked = stars.get(star);
        int moved = asked.longitude + (year - asked.epoch) / YEARS_PER_DEGREE_TENTH;
        return Math.floorMod(isOutside ? -moved : moved, FULL_TURN);
    }

    public int day(int latitude, int declination) throws IllegalArgumentException {
        requireLatitude(latitude);
        requireWithin(declination, -MOST_DECLINATION, MOST_DECLINATION);
        return 8 * halfDay(latitude, declination) / 10;
    }

    public int distance(int latitude, int longitude, int toLatitude, int toLongitude)
            throws IllegalArgumentException {
        requireLatitude(latitude);
        requireLongitude(longitude);
        requireLatitude(toLatitude);
        requireLongitude(toLongitude);
        int sines = sineOf(latitude) * sineOf(toLatitude) / WHOLE_SINE;
        int cosines = cosineOf(latitude) * cosineOf(toLatitude) / WHOLE_SINE;
        return arcOf(sines + cosines * cosineOf(wayRound(longitude, toLongitude)) / WHOLE_SINE);
    }

    private static int halfDay(int latitude, int declination) {
        long sines = (long) sineOf(latitude) * sineOf(declination);
        long cosines = (long) cosineOf(latitude) * cosineOf(declination);
        if (cosines == 0) {
            return sines < 0 ? 0 : sines == 0 ? QUARTER : HALF_TURN;
        }
        return arcOf(-(sines * WHOLE_SINE / cosines));
    }

    // Trade

    public int subscribe(int price) throws IllegalArgumentException, IllegalStateException {
        requireWithin(price, LEAST_PRICE, MOST_PRICE);
        requireRoom(subscribers.size() < MOST_SUBSCRIBERS);
        subscribers.add(new Subscriber(price, now));
        return subscribers.size() - 1;
    }

    public int giveUp(int subscriber) throws IndexOutOfBoundsException, UnsupportedOperationException {
        Subscriber leaving = subscriberAt(subscriber);
        requireDoable(leaving.isWaiting);
        int back = leaving.paid;
        leaving.paid = 0;
        leaving.isWaiting = false;
        leaving.hasGivenUp = true;
        return back;
    }

    public int deliver(int globe)
            throws IndexOutOfBoundsException, UnsupportedOperationException, NoSuchElementException {
        Globe delivered = globeAt(globe);
        requireDoable(!delivered.isDelivered && delivered.goreCount() == plates.size());
        int number = nextInTurn();
        Subscriber served = number == NONE ? null : subscribers.get(number);
        if (served == null) {
            throw new NoSuchElementException();
        }
        delivered.isDelivered = true;
        served.isWaiting = false;
        served.paid = served.price;
        return number;
    }

    public int owes(int subscriber) throws IndexOutOfBoundsException {
        return subscriberAt(subscriber).debt();
    }

    public int money() {
        return moneyPaid();
    }

    private int moneyPaid() {
        int sum = 0;
        for (int i = 0; i < subscribers.size(); i++) {
            sum += subscribers.get(i).paid;
        }
        return sum;
    }

    /** Going by the numbers, a later subscriber must be strictly better, so the lowest number wins a draw. */
    private int nextInTurn() {
        Subscriber first = null;
        int number = NONE;
        for (int i = 0; i < subscribers.size(); i++) {
            Subscriber other = subscribers.get(i);
            if (other.isWaiting && (first == null || other.isAheadOf(first))) {
                first = other;
                number = i;
            }
        }
        return number;
    }

    private Subscriber subscriberAt(int number) {
        requireNumber(number, subscribers.size());
        return subscribers.get(number);
    }

    // The workshop as a whole

    public float balancedShare() throws ArithmeticException {
        int all = spheres.size();
        if (all == 0) {
            throw new ArithmeticException();
        }
        int balanced = 0;
        for (int i = 0; i < all; i++) {
            if (spheres.get(i).isBalanced()) {
                balanced++;
            }
        }
        return (float) balanced / (float) all;
    }

    public double meanGap() throws ArithmeticException {
        int count = 0;
        int sum = 0;
        for (int i = 0; i < globes.size(); i++) {
            for (Gore gore : globes.get(i).gores) {
                if (gore != null) {
                    count++;
                    sum += gore.gapLeft;
                }
            }
        }
        if (count == 0) {
            throw new ArithmeticException();
        }
        return (double) sum / (double) count;
    }

    public long checksum() {
        long sum = 7;
        for (int i = 0; i < plates.size(); i++) {
            sum = 31 * sum + plates.get(i).latest.factCount();
            sum = 31 * sum + plates.get(i).stateCount;
        }
        for (int i = 0; i < sheets.size(); i++) {
            sum = 31 * sum + sheets.get(i).plate.number;
        }
        for (int i = 0; i < globes.size(); i++) {
            for (Gore gore : globes.get(i).gores) {
                if (gore != null) {
                    sum = 31 * sum + gore.gapLeft;
                }
            }
        }
        return 31 * sum + moneyPaid();
    }

    public boolean isTrue() {
        return freshGlobesCanBeOfNow() && statesFollowChanges() && nobodyOwesLessThanNothing();
    }

    private boolean freshGlobesCanBeOfNow() {
        for (int i = 0; i < globes.size(); i++) {
            Globe globe = globes.get(i);
            if (globe.isFresh() && !canBeOf(globe, now)) {
                return false;
            }
        }
        return true;
    }

    private boolean statesFollowChanges() {
        for (int i = 0; i < plates.size(); i++) {
            for (State state = plates.get(i).latest; state != null; state = state.previous) {
                if (state.shown != State.shownBehind(state.previous, state.fact, state.place)) {
                    return false;
                }
            }
        }
        return true;
    }

    private boolean nobodyOwesLessThanNothing() {
        for (int i = 0; i < subscribers.size(); i++) {
            if (subscribers.get(i).debt() < 0) {
                return false;
            }
        }
        return true;
    }

    // What the calls ask for

    private static void requireNumber(int number, int count) {
        if (number < 0 || number >= count) {
            throw new IndexOutOfBoundsException();
        }
    }

    private static void requireWithin(int number, int least, int most) {
        if (number < least || number > most) {
            throw new IllegalArgumentException();
        }
    }

    private static void requireLongitude(int longitude) {
        requireWithin(longitude, 0, FULL_TURN - 1);
    }

    private static void requireLatitude(int latitude) {
        requireWithin(latitude, -QUARTER, QUARTER);
    }

    private static void requireYear(int year) {
        requireWithin(year, OLDEST_YEAR, LAST_YEAR);
    }

    private static void requireDoable(boolean isDoable) {
        if (!isDoable) {
            throw new UnsupportedOperationException();
        }
    }

    private static void requireRoom(boolean hasRoom) {
        if (!hasRoom) {
            throw new IllegalStateException();
        }
    }

    /** The directions stand by twos, so that axis a leans between the weights 2a and 2a + 1. */
    private static final class Sphere {
        static final int AXIS_COUNT = 3;
        final int circumference;
        final int[] weights;
        boolean isOnGlobe;

        Sphere(int circumference) {
            this.circumference = circumference;
            weights = new int[2 * AXIS_COUNT];
        }

        int leanAlong(int axis) {
            if (axis < 0 || axis >= AXIS_COUNT) {
                return 0;
            }
            return weights[2 * axis] - weights[2 * axis + 1];
        }

        int evenOut(int axis) {
            int tilt = leanAlong(axis);
            if (tilt == 0) {
                return 0;
            }
            int lighter = tilt > 0 ? 2 * axis + 1 : 2 * axis;
            weights[lighter] += Math.abs(tilt);
            return Math.abs(tilt);
        }

        boolean isBalanced() {
            for (int axis = 0; axis < AXIS_COUNT; axis++) {
                if (leanAlong(axis) != 0) {
                    return false;
                }
            }
            return true;
        }
    }

    private static final class Fact {
        final int longitude;
        final int known;
        final int falseFrom;

        Fact(int longitude, int known, int falseFrom) {
            this.longitude = longitude;
            this.known = known;
            this.falseFrom = falseFrom;
        }

        boolean isTrap() {
            return falseFrom == known;
        }

        boolean isCutIn(int year) {
            return year >= known && (falseFrom == NONE || isTrap() || year < falseFrom);
        }
    }

    /**
     * What a plate shows behind a change, with that change and the state ahead of it; the first
     * state has none. A sheet keeps its state, so later changes of the plate don't touch it.
     */
    private static final class State {
        final State previous;
        final int year;
        final int fact;
        /** Where the fact was cut, NONE where it was hammered out. */
        final int place;
        final int shown;

        State(State previous, int year, int fact, int place) {
            this.previous = previous;
            this.year = year;
            this.fact = fact;
            this.place = place;
            shown = shownBehind(previous, fact, place);
        }

        static int shownBehind(State previous, int fact, int place) {
            if (previous == null) {
                return 0;
            }
            return place == NONE ? previous.shown & ~(1 << fact) : previous.shown | 1 << fact;
        }

        int factCount() {
            return Integer.bitCount(shown);
        }

        int placeOfCut(int wanted) {
            for (State state = this; state != null; state = state.previous) {
                if (state.fact == wanted) {
                    return state.place;
                }
            }
            return NONE;
        }
    }

    private static final class Plate {
        final int number;
        final int width;
        State latest;
        int stateCount;
        int sheetsGiven;

        Plate(int number, int width, int year) {
            this.number = number;
            this.width = width;
            latest = new State(null, year, NONE, NONE);
            stateCount = 1;
        }
    }

    private static final class Sheet {
        final Plate plate;
        final State state;
        boolean isPasted;

        Sheet(Plate plate) {
            this.plate = plate;
            state = plate.latest;
        }
    }

    /** A sheet on a globe, grown as wet as it was pasted. */
    private static final class Gore {
        final Sheet sheet;
        final int thousandths;
        final int begin;
        final int gapLeft;
        int lostFacts;
        boolean isLost;

        Gore(Sheet sheet, int thousandths, int begin, int room) {
            this.sheet = sheet;
            this.thousandths = thousandths;
            this.begin = begin;
            gapLeft = room - grown(sheet.plate.width, thousandths);
        }

        static int grown(int length, int thousandths) {
            return length + length * thousandths / 1000;
        }

        int placeOnSheet(int fact) {
            int mirrored = sheet.plate.width - 1 - sheet.state.placeOfCut(fact);
            return grown(mirrored, thousandths);
        }

        int visibleFacts() {
            return isLost ? 0 : sheet.state.shown & ~lostFacts;
        }

        /** A state was still so in the year of the change that ended it. */
        boolean canBeOf(int year, int now) {
            int until = now;
            for (State state = sheet.plate.latest; state != null; state = state.previous) {
                boolean wasThen = state.year <= year && year <= until;
                if (wasThen && (state.shown & ~lostFacts) == visibleFacts()) {
                    return true;
                }
                until = state.year;
            }
            return false;
        }
    }

    private static final class Globe {
        final int circumference;
        /** By plate, null where no sheet is pasted. */
        final Gore[] gores;
        boolean isDelivered;

        Globe(int circumference) {
            this.circumference = circumference;
            gores = new Gore[MOST_PLATES];
        }

        Gore goreOf(int plate) {
            return plate >= 0 && plate < gores.length ? gores[plate] : null;
        }

        void setGore(int plate, Gore gore) {
            if (plate >= 0 && plate < gores.length) {
                gores[plate] = gore;
            }
        }

        int goreCount() {
            int count = 0;
            for (Gore gore : gores) {
                if (gore != null) {
                    count++;
                }
            }
            return count;
        }

        int visibleFacts() {
            int seen = 0;
            for (Gore gore : gores) {
                if (gore != null) {
                    seen |= gore.visibleFacts();
                }
            }
            return seen;
        }

        boolean isFresh() {
            for (Gore gore : gores) {
                if (gore != null && gore.sheet.state != gore.sheet.plate.latest) {
                    return false;
                }
            }
            return true;
        }
    }

    private static final class Source {
        final int isle;
        final int longitude;
        final int error;

        Source(int isle, int longitude, int error) {
            this.isle = isle;
            this.longitude = longitude;
            this.error = error;
        }
    }

    /** The latitude of a star is not kept: it stays, and no call asks for it. */
    private static final class Star {
        final int longitude;
        final int epoch;

        Star(int longitude, int epoch) {
            this.longitude = longitude;
            this.epoch = epoch;
        }
    }

    private static final class Subscriber {
        final int price;
        final int signed;
        int paid;
        boolean isWaiting;
        boolean hasGivenUp;

        Subscriber(int price, int signed) {
            this.price = price;
            this.signed = signed;
            paid = price / 2;
            isWaiting = true;
        }

        int debt() {
            return hasGivenUp ? 0 : price - paid;
        }

        boolean isAheadOf(Subscriber other) {
            return signed < other.signed || signed == other.signed && price > other.price;
        }
    }
}
