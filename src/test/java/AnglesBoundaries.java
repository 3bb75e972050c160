/** Angles and questions: promises 2, 3, 40 and 41. */
final class AnglesBoundaries {
    private static final Boundaries.Scene NEW = Scenes.NEW;
    private static final int[] SINES = {0, 174, 342, 500, 643, 766, 866, 940, 985, 1000};

    private final Boundaries b;

    private AnglesBoundaries(Boundaries b) {
        this.b = b;
    }

    static void check(Boundaries b) {
        AnglesBoundaries part = new AnglesBoundaries(b);
        part.ranges();
        part.sines();
        part.cosinesAndArcs();
        part.sun();
        part.distance();
        part.promises();
    }

    private void ranges() {
        b.term("Angles are in tenths of degrees; longitudes are 0 to 3599, round, latitudes -900 to 900.").by(() -> {
            b.takes(0, 3599, NEW, (w, longitude) -> w.fact(longitude, 1500, -1));
            b.takes(0, 3599, Scenes.isles(1), (w, longitude) -> w.source(0, longitude, 0));
            b.takes(0, 3599, NEW, (w, longitude) -> w.star(longitude, 0, 1600));
            b.takes(0, 3599, NEW, (w, longitude) -> w.distance(0, longitude, 0, 0));
            b.takes(0, 3599, NEW, (w, longitude) -> w.distance(0, 0, 0, longitude));
            b.takes(-900, 900, NEW, (w, latitude) -> w.star(0, latitude, 1600));
            b.takes(-900, 900, NEW, (w, latitude) -> w.day(latitude, 0));
            b.takes(-900, 900, NEW, (w, latitude) -> w.distance(latitude, 0, 0, 0));
            b.takes(-900, 900, NEW, (w, latitude) -> w.distance(0, 0, latitude, 0));
            // 3599 is as near to 0 as 1 is.
            b.answers(1, NEW, w -> w.distance(0, 1, 0, 0));
            b.answers(1, NEW, w -> w.distance(0, 3599, 0, 0));
            b.answers(1, NEW, w -> w.distance(0, 0, 0, 3599));
        });
    }

    private void sines() {
        int[][] between = {{1, 1}, {99, 172}, {101, 175}, {199, 340}, {201, 343}, {299, 498}, {301, 501}, {399, 641},
            {401, 644}, {499, 764}, {501, 767}, {599, 865}, {601, 866}, {699, 939}, {701, 940}, {799, 984},
            {801, 985}, {806, 985}, {807, 986}, {899, 999}, {50, 87}, {450, 704}, {649, 902}};
        b.term("Sines are in thousandths: of 0, 100, 200 and so on to 900 they are 0, 174, 342, 500, 643, 766, 866, 940, "
                + "985 and 1000; of an angle between two of these, the sine of the lower one, and of the difference of "
                + "both sines as many hundredths as the angle is above the lower one, cut.").by(() -> {
            for (int i = 0; i < SINES.length; i++) {
                int angle = 100 * i;
                b.answers(SINES[i], NEW, w -> w.sine(angle));
            }
            for (int[] row : between) {
                b.answers(row[1], NEW, w -> w.sine(row[0]));
            }
        });
        b.term("The sine of an angle from -900 to -1 is that of the same angle without sign, below 0.").by(() -> {
            for (int i = 0; i < SINES.length; i++) {
                int angle = -100 * i;
                b.answers(-SINES[i], NEW, w -> w.sine(angle));
            }
            for (int[] row : between) {
                b.answers(-row[1], NEW, w -> w.sine(-row[0]));
            }
        });
    }

    private void cosinesAndArcs() {
        b.term("The cosine of an angle from -900 to 1800 is the sine of 900 less the angle without sign.").by(() -> {
            // From the equator's beginning, what is so far up or round as the angle has its cosine alone.
            int[][] up = {{0, 0}, {1, 1}, {899, 899}, {900, 900}, {-1, 1}, {-899, 899}, {-900, 900}};
            for (int[] row : up) {
                b.answers(row[1], NEW, w -> w.distance(row[0], 0, 0, 0));
            }
            int[][] round = {{899, 899}, {900, 900}, {901, 901}, {1799, 1794}, {1800, 1800}};
            for (int[] row : round) {
                b.answers(row[1], NEW, w -> w.distance(0, 0, 0, row[0]));
            }
        });
        b.term("The arc of a number is the least angle from 0 to 1800 whose cosine is not above that number, 1800 if "
                + "there is none.").by(() -> {
            int[][] rows = {{1000, 0}, {999, 1}, {998, 7}, {986, 87}, {985, 94}, {984, 101}, {1, 899}, {0, 900}, {-1, 901},
                {-2, 902}, {-3, 902}, {-998, 1787}, {-999, 1794}, {-1000, 1800}};
            for (int[] row : rows) {
                b.answers(row[1], NEW, w -> w.arc(row[0]));
            }
            // The numbers of days near the poles lie above 1000, or below -1000, where no cosine is.
            b.answers(0, NEW, w -> w.day(899, -300));
            b.answers(1440, NEW, w -> w.day(899, 300));
        });
    }

    private void sun() {
        b.term("The sun at a latitude with a declination, -300 to 300: the half day is the arc of what comes as the "
                + "sines of both, multiplied, and times 1000, are divided by the cosines of both, multiplied, with the "
                + "other sign, cut; if a cosine is 0, the half day is 0, 900 or 1800, as the sines multiplied are below "
                + "0, 0 or above.").by(() -> {
            b.takes(-300, 300, NEW, (w, declination) -> w.day(0, declination));
            int[][] poles = {{900, -300, 0}, {900, -1, 0}, {900, 0, 720}, {900, 1, 1440}, {900, 300, 1440},
                {-900, -300, 1440}, {-900, -1, 1440}, {-900, 0, 720}, {-900, 1, 0}, {-900, 300, 0}};
            int[][] near = {{899, -1, 0}, {899, 0, 720}, {899, 1, 1440}, {-899, -1, 1440}, {-899, 0, 720}, {-899, 1, 0}};
            int[][] between = {{664, 235, 1419}, {665, 235, 1440}, {599, 300, 1419}, {600, 300, 1440}, {600, -300, 0},
                {300, 300, 876}, {1, 1, 720}, {0, 300, 720}};
            // Where what comes is cut, and not rounded down.
            int[][] cut = {{-886, 12, 267}, {-879, 12, 449}, {-872, 12, 523}, {-858, 12, 593}, {-858, 25, 431}};
            for (int[][] rows : new int[][][] {poles, near, between, cut}) {
                for (int[] row : rows) {
                    b.answers(row[2], NEW, w -> w.day(row[0], row[1]));
                }
            }
        });
        b.term("The day lasts twice the half day, divided by 10, times 4 minutes, that is 8 times the half day divided "
                + "by 10, cut.").by(() -> {
            // Half days of 1233 and 567: the last minutes come of what the division by 10 alone would lose.
            b.answers(986, NEW, w -> w.day(515, 235));
            b.answers(454, NEW, w -> w.day(515, -235));
            b.answers(1440, NEW, w -> w.day(900, 1));
            b.answers(0, NEW, w -> w.day(900, -1));
        });
    }

    private void distance() {
        b.term("The distance of two places is the arc of the sines of their latitudes, multiplied, and the cosines of "
                + "these and of the difference of their longitudes, the shorter way round, multiplied: first the two "
                + "sines by 1000, cut; then the two cosines by 1000, cut, that times the third cosine by 1000, cut; both "
                + "summed up.").by(() -> {
            int[][] rows = {{0, 0, 0, 0, 0}, {0, 0, 0, 1799, 1794}, {0, 0, 0, 1800, 1800}, {0, 0, 0, 1801, 1794},
                {0, 3500, 0, 100, 198}, {0, 100, 0, 3500, 198}, {0, 3599, 0, 1799, 1800}, {0, 3599, 0, 1798, 1794},
                {515, 0, 407, 2860, 505}, {407, 2860, 515, 0, 505}, {900, 0, -900, 77, 1800}, {900, 0, 900, 1800, 0},
                {-900, 5, 0, 7, 900}, {600, 0, 600, 1800, 601}, {-600, 0, -600, 1800, 601}};
            // Where the quotients are cut, and not rounded down.
            int[][] cut = {{-625, 2331, 835, 3286, 1518}, {664, 258, -378, 482, 1057}, {-708, 1998, -842, 3423, 241},
                {-102, 1772, 344, 3122, 1320}, {671, 8, 525, 1824, 604}, {-355, 2955, 742, 937, 1392}};
            for (int[][] part : new int[][][] {rows, cut}) {
                for (int[] row : part) {
                    b.answers(row[4], NEW, w -> w.distance(row[0], row[1], row[2], row[3]));
                }
            }
        });
    }

    private void promises() {
        b.promise(2, "Returns the sine of an angle.", "- `angle`: the angle, -900 to 900", "Returns the thousandths.",
                "Throws `IllegalArgumentException` if a number is out of range").by(() -> {
            b.answers(1000, NEW, w -> w.sine(900));
            b.answers(-1000, NEW, w -> w.sine(-900));
            b.takes(-900, 900, NEW, (w, angle) -> w.sine(angle));
        });
        b.promise(3, "Returns the arc of a number.", "- `number`: the number, -1000 to 1000", "Returns the angle.",
                "Throws `IllegalArgumentException` if a number is out of range").by(() -> {
            b.answers(0, NEW, w -> w.arc(1000));
            b.answers(1800, NEW, w -> w.arc(-1000));
            b.takes(-1000, 1000, NEW, (w, number) -> w.arc(number));
        });
        b.promise(40, "Returns how long a day lasts.", "Returns the minutes.",
                "Throws `IllegalArgumentException` if a number is out of range").by(() -> {
            b.answers(720, NEW, w -> w.day(0, 0));
            b.takes(-900, 900, NEW, (w, latitude) -> w.day(latitude, 300));
            b.takes(-300, 300, NEW, (w, declination) -> w.day(900, declination));
        });
        b.promise(41, "Returns the distance of two places.", "Returns the angle.",
                "Throws `IllegalArgumentException` if a number is out of range").by(() -> {
            b.answers(1800, NEW, w -> w.distance(900, 3599, -900, 3599));
            b.takes(-900, 900, NEW, (w, latitude) -> w.distance(latitude, 3599, -900, 3599));
            b.takes(0, 3599, NEW, (w, longitude) -> w.distance(900, longitude, -900, 3599));
            b.takes(-900, 900, NEW, (w, latitude) -> w.distance(900, 3599, latitude, 3599));
            b.takes(0, 3599, NEW, (w, longitude) -> w.distance(900, 3599, -900, longitude));
        });
    }
}
