import com.sun.management.ThreadMXBean;
import java.lang.management.ManagementFactory;

/** All calls of a run live in one room: nothing is let go, so little may be made. */
final class RoomTest {
    /** Far below the room of 600,000 objects with 7.3 million elements. */
    private static final long MOST_BYTES = 400_000L;

    private RoomTest() {
    }

    static void run(Check c) {
        ThreadMXBean beans = (ThreadMXBean) ManagementFactory.getThreadMXBean();
        fullRun();
        long before = beans.getCurrentThreadAllocatedBytes();
        fullRun();
        long used = beans.getCurrentThreadAllocatedBytes() - before;
        c.holds("a full run makes " + used + " bytes, at most " + MOST_BYTES, used <= MOST_BYTES);
    }

    /** 512 calls: a house with all that it can hold, then the calls that look through all of it. */
    private static void fullRun() {
        ModHouse x = new ModHouse();
        int calls = 0;
        for (int i = 0; i < 12; i++, calls++) {
            x.addAccount();
        }
        for (int i = 0; i < 6; i++, calls += 3) {
            x.addRule(1, 0, 'n', 0);
            x.setScore(i, 0, 9);
            x.setThreshold(i, 9);
        }
        for (int i = 0; i < 4; i++, calls++) {
            x.addModerator(255, 9);
        }
        for (int i = 0; i < 6; i++, calls++) {
            x.regime(i, 'r', 1, 9);
        }
        for (int i = 0; i < 50; i++, calls++) {
            x.post(i % 12, 1);
        }
        for (int i = 0; i < 36; i++, calls++) {
            x.decide(i / 9, i, i % 6);
        }
        for (int i = 0; i < 36; i++, calls++) {
            x.spread(i);
        }
        for (int i = 0; i < 20; i++, calls += 2) {
            x.order(i % 3, i, 0);
            x.obey(i);
        }
        for (; calls < 512; calls++) {
            look(x, calls % 6);
        }
    }

    private static void look(ModHouse x, int kind) {
        switch (kind) {
            case 0:
                x.isSound();
                break;
            case 1:
                x.feedAt(1, 3);
                break;
            case 2:
                x.queueAt(13);
                break;
            case 3:
                x.numberOf(1, 'a');
                break;
            case 4:
                x.view(49, 0, 100000);
                break;
            default:
                x.strikes(3);
                break;
        }
    }
}
