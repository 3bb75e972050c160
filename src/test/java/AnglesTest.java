/** Promises 2, 3, 40 and 41: sines, arcs, days and distances. */
public final class AnglesTest {
    private static final Class<IllegalArgumentException> ARGUMENT = IllegalArgumentException.class;
    private static final Checks check = new Checks();

    public static void main(String[] args) {
        sine();
        arc();
        arcIsTheLeastAngle();
        day();
        distance();
        check.end();
    }

    private static void sine() {
        Globewright w = new Globewright();
        int[] whole = {0, 174, 342, 500, 643, 766, 866, 940, 985, 1000};
        for (int i = 0; i < whole.length; i++) {
            check.equal(w.sine(100 * i), whole[i]);
            check.equal(w.sine(-100 * i), -whole[i]);
        }
        int[][] between = {{1, 1}, {5, 8}, {6, 10}, {99, 172}, {101, 175}, {149, 256}, {150, 258}, {199, 340},
            {250, 421}, {399, 641}, {555, 821}, {750, 962}, {895, 999}, {899, 999}};
        for (int[] row : between) {
            check.equal(w.sine(row[0]), row[1]);
            check.equal(w.sine(-row[0]), -row[1]);
        }
        for (int wrong : new int[] {-901, 901, Integer.MIN_VALUE, Integer.MAX_VALUE}) {
            check.fails(ARGUMENT, () -> w.sine(wrong));
        }
    }

    private static void arc() {
        Globewright w = new Globewright();
        int[][] rows = {{1000, 0}, {999, 1}, {998, 7}, {750, 413}, {501, 599}, {500, 600}, {499, 601}, {175, 799},
            {174, 800}, {173, 801}, {1, 899}, {0, 900}, {-1, 901}, {-500, 1200}, {-750, 1387}, {-999, 1794},
            {-1000, 1800}};
        for (int[] row : rows) {
            check.equal(w.arc(row[0]), row[1]);
        }
        for (int wrong : new int[] {-1001, 1001, Integer.MIN_VALUE, Integer.MAX_VALUE}) {
            check.fails(ARGUMENT, () -> w.arc(wrong));
        }
    }

    private static void arcIsTheLeastAngle() {
        int[] cosines = new int[1801];
        for (int angle = 0; angle <= 1800; angle++) {
            cosines[angle] = new Globewright().sine(900 - angle);
        }
        for (int number = -1000; number <= 1000; number++) {
            int least = 0;
            while (least < 1800 && cosines[least] > number) {
                least++;
            }
            check.equal(new Globewright().arc(number), least);
        }
    }

    private static void day() {
        Globewright w = new Globewright();
        int[][] rows = {{0, 0, 720}, {0, 235, 720}, {450, 0, 720}, {515, 235, 986}, {515, -235, 454},
            {-515, 235, 454}, {-515, -235, 986}, {664, 235, 1419}, {665, 235, 1440}, {700, 235, 1440},
            {700, -235, 0}, {-700, 235, 0}, {300, 300, 876}, {599, 300, 1419}, {600, -300, 0}, {123, -45, 712},
            {1, 1, 720}, {899, 0, 720}, {899, 1, 1440}, {899, -1, 0},
            {900, 0, 720}, {-900, 0, 720}, {900, 1, 1440}, {900, -1, 0}, {-900, 1, 0}, {-900, -1, 1440},
            {900, 300, 1440}, {-900, 300, 0}};
        for (int[] row : rows) {
            check.equal(w.day(row[0], row[1]), row[2]);
        }
        // Here a division that is rounded down, and not cut, comes to another day.
        int[][] cut = {{-886, 12, 267}, {-879, 12, 449}, {-872, 12, 523}, {-858, 12, 593}, {-858, 25, 431}};
        for (int[] row : cut) {
            check.equal(w.day(row[0], row[1]), row[2]);
        }
        for (int wrong : new int[] {-901, 901, Integer.MIN_VALUE, Integer.MAX_VALUE}) {
            check.fails(ARGUMENT, () -> w.day(wrong, 0));
        }
        for (int wrong : new int[] {-301, 301, Integer.MIN_VALUE, Integer.MAX_VALUE}) {
            check.fails(ARGUMENT, () -> w.day(0, wrong));
        }
    }

    private static void distance() {
        Globewright w = new Globewright();
        int[][] rows = {{0, 0, 0, 0, 0}, {0, 0, 0, 1, 1}, {0, 0, 0, 900, 900}, {0, 0, 0, 1799, 1794},
            {0, 0, 0, 1800, 1800}, {0, 0, 0, 1801, 1794}, {0, 3500, 0, 100, 198}, {0, 100, 0, 3500, 198},
            {515, 1234, 515, 1234, 34}, {515, 0, 407, 2860, 505}, {407, 2860, 515, 0, 505},
            {900, 0, -900, 77, 1800}, {900, 0, 900, 1800, 0}, {-900, 5, 0, 7, 900}, {300, 0, -300, 1800, 1794},
            {600, 0, 600, 1800, 601}, {-600, 0, -600, 1800, 601}, {123, 3599, -456, 1, 581}};
        for (int[] row : rows) {
            check.equal(w.distance(row[0], row[1], row[2], row[3]), row[4]);
        }
        // Here divisions that are rounded down, and not cut, come to another distance.
        int[][] cut = {{-625, 2331, 835, 3286, 1518}, {664, 258, -378, 482, 1057}, {-708, 1998, -842, 3423, 241},
            {-102, 1772, 344, 3122, 1320}, {671, 8, 525, 1824, 604}, {-355, 2955, 742, 937, 1392}};
        for (int[] row : cut) {
            check.equal(w.distance(row[0], row[1], row[2], row[3]), row[4]);
        }
        for (int wrong : new int[] {-901, 901, Integer.MIN_VALUE, Integer.MAX_VALUE}) {
            check.fails(ARGUMENT, () -> w.distance(wrong, 0, 0, 0));
            check.fails(ARGUMENT, () -> w.distance(0, 0, wrong, 0));
        }
        for (int wrong : new int[] {-1, 3600, Integer.MIN_VALUE, Integer.MAX_VALUE}) {
            check.fails(ARGUMENT, () -> w.distance(0, wrong, 0, 0));
            check.fails(ARGUMENT, () -> w.distance(0, 0, 0, wrong));
        }
    }
}
