import com.sun.management.ThreadMXBean;
import java.lang.management.ManagementFactory;

/**
 * How much room 512 calls take, in the runs that take most: what they make, by the machine's own count of this thread,
 * and what the house keeps of it. All runs together have some 600,000 objects and 7.3 million fields and elements.
 */
public final class RoomTest {
    private static final int CALLS = 512;
    /** An object takes 16 bytes and a field 4 of them, so this is 32,768 objects or 131,072 fields at most. */
    private static final long MOST_BYTES = CALLS * 1024L;
    private static final int MOST_OBJECTS = 2_000;
    private static final int MOST_FIELDS = 10_000;
    private static final ThreadMXBean MACHINE = (ThreadMXBean) ManagementFactory.getThreadMXBean();
    private static final Check CHECK = new Check("RoomTest");

    /** Calls on one house, of which it has had some already. */
    private interface Run {
        void on(Vivahouse x, int callsBefore);
    }

    private RoomTest() {
    }

    public static void main(String[] args) {
        measure("A mode told anew each month", RoomTest::modes);
        measure("A pause each month", RoomTest::pauses);
        measure("Months of a full house", RoomTest::months);
        measure("Questions to a full house", RoomTest::questions);
        measure("Calls that throw", RoomTest::refusals);
        CHECK.end();
    }

    private static void measure(String what, Run run) {
        long least = Long.MAX_VALUE;
        Vivahouse x = null;
        for (int i = 0; i < 3; i++) {
            long before = MACHINE.getCurrentThreadAllocatedBytes();
            x = new Vivahouse();
            run.on(x, fill(x));
            least = Math.min(least, MACHINE.getCurrentThreadAllocatedBytes() - before);
        }
        CHECK.same(what + ": the machine counts", least > 0, true);
        CHECK.same(what + ": " + least + " bytes are few enough", least <= MOST_BYTES, true);
        String inside = Inside.of(x);
        long objects = inside.chars().filter(letter -> letter == '(').count();
        long fields = inside.chars().filter(letter -> letter == ' ').count();
        CHECK.same(what + ": " + objects + " objects kept are few enough", objects <= MOST_OBJECTS, true);
        CHECK.same(what + ": " + fields + " fields kept are few enough", fields <= MOST_FIELDS, true);
    }

    /** All that a house can have; the number of calls. */
    private static int fill(Vivahouse x) {
        for (int i = 0; i < 5; i++) {
            x.regulation(6, 120, 60, 1, 24, 10, true);
        }
        for (int i = 0; i < 16; i++) {
            x.member(i % 4 == 3 ? 1 : 0, 400);
        }
        for (int i = 0; i < 30; i++) {
            x.tie(i % 16, (i + 5) % 16, 'k');
        }
        for (int i = 0; i < 12; i++) {
            x.candidate('h', false);
            x.upgrade(i, 0, true, 1, true);
        }
        for (int i = 0; i < 20; i++) {
            x.grant(i % 12, 9999, 60, i);
        }
        return 5 + 16 + 30 + 24 + 20;
    }

    private static void modes(Vivahouse x, int callsBefore) {
        for (int calls = callsBefore; calls + 13 <= CALLS; calls += 13) {
            for (int i = 0; i < 12; i++) {
                x.mode(i, calls / 13 % 2 == 0 ? 'f' : 'h');
            }
            x.pass(1);
        }
    }

    private static void pauses(Vivahouse x, int callsBefore) {
        for (int calls = callsBefore; calls + 4 <= CALLS; calls += 4) {
            x.pause(0, 'w');
            x.pass(1);
            x.resume(0);
            x.pass(1);
        }
    }

    private static void months(Vivahouse x, int callsBefore) {
        for (int i = 0; i < 12; i++) {
            x.pause(i, 's');
        }
        for (int calls = callsBefore + 12; calls < CALLS; calls++) {
            x.pass(1);
        }
    }

    private static void questions(Vivahouse x, int callsBefore) {
        int answers = 0;
        for (int calls = callsBefore; calls + 7 <= CALLS; calls += 7) {
            int i = calls % 12;
            answers += x.gap(i) > 0 ? 1 : 0;
            answers += x.reaches(i) > 0 ? 1 : 0;
            answers += x.barred(i, calls % 16) != ' ' ? 1 : 0;
            answers += x.load(calls % 16) == 0 ? 1 : 0;
            answers += x.checksum() != 0 ? 1 : 0;
            answers += x.awardShare(0, 600) == 0 ? 1 : 0;
            answers += x.isSound() ? 1 : 0;
        }
        CHECK.same("Questions to a full house: they are answered", answers, (CALLS - callsBefore) / 7 * 7);
    }

    private static void refusals(Vivahouse x, int callsBefore) {
        int thrown = 0;
        for (int calls = callsBefore; calls < CALLS; calls++) {
            try {
                x.panel(11, 0, 1, 2, 3);
            } catch (UnsupportedOperationException e) {
                thrown++;
            }
        }
        CHECK.same("Calls that throw: they do", thrown, CALLS - callsBefore);
    }
}
