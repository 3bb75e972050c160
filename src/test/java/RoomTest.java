import com.sun.management.ThreadMXBean;
import java.lang.management.ManagementFactory;

/** A question makes nothing, and a run of changes makes little: all calls of a run live in one room. */
public final class RoomTest {
    /** The room, at eight bytes for each field or element, is some 58 million bytes. */
    private static final long MOST_FOR_A_WORKSHOP = 100_000;
    /** So few that they are not yet compiled to what makes no objects: the room counts them all. */
    private static final int TIMES = 20;
    private static final int LEAST_OBJECT = 16;

    interface Question {
        double of(Globewright w);
    }

    private static final Checks check = new Checks();
    private static final ThreadMXBean THREADS = (ThreadMXBean) ManagementFactory.getThreadMXBean();

    public static void main(String[] args) {
        questionsMakeNothing();
        workshopsAreSmall();
        check.end();
    }

    private static void questionsMakeNothing() {
        Question[] questions = {w -> w.sine(77), w -> w.arc(-999), w -> w.lean(2, 'e'), w -> w.balance(0),
            w -> w.leanBits(2), w -> w.scaleBits(3, 7), w -> w.shows(0, 1) ? 1 : 0, w -> w.states(1), w -> w.sharpen(0),
            w -> w.isPrinted(0, 1) ? 1 : 0, w -> w.growth(5), w -> w.gap(0, 0), w -> w.placeOf(0, 1), w -> w.offOf(0, 1),
            w -> w.years(2), w -> w.yearOf(2, false), w -> w.isPirate(0, 1) ? 1 : 0, w -> w.agreeing(0), w -> w.best(0),
            w -> w.news(3, 1601, 2), w -> w.claim(2, 2, 2), w -> w.colour(0, 3, 1999), w -> w.starAt(0, 1999, true),
            w -> w.day(500, -235), w -> w.distance(1, 2, 3, 4), w -> w.owes(0), w -> w.money(),
            w -> w.balancedShare(), w -> w.meanGap(), w -> w.checksum(), w -> w.isTrue() ? 1 : 0};
        Globewright w = new Globewright();
        Scenes.RICH.set(w);
        bytesOf(questions[0], w);
        for (int i = 0; i < questions.length; i++) {
            // The first call may make what the machine needs to link it.
            questions[i].of(w);
            long bytes = bytesOf(questions[i], w);
            check.holds(bytes < LEAST_OBJECT * TIMES, "question " + i + " makes " + bytes + " bytes in " + TIMES + " calls");
        }
    }

    private static long bytesOf(Question question, Globewright w) {
        long thread = Thread.currentThread().getId();
        long before = THREADS.getThreadAllocatedBytes(thread);
        for (int i = 0; i < TIMES; i++) {
            question.of(w);
        }
        return THREADS.getThreadAllocatedBytes(thread) - before;
    }

    private static void workshopsAreSmall() {
        long thread = Thread.currentThread().getId();
        Scenes.FULL.set(new Globewright());
        long before = THREADS.getThreadAllocatedBytes(thread);
        Scenes.FULL.set(new Globewright());
        long bytes = THREADS.getThreadAllocatedBytes(thread) - before;
        check.holds(bytes > 0 && bytes < MOST_FOR_A_WORKSHOP, "a full workshop makes " + bytes + " bytes");
    }
}
