import com.sun.management.ThreadMXBean;
import java.lang.management.ManagementFactory;

/**
 * How much one object makes in its 512 calls. All calls of a run live in one room of some 600,000 objects and 7.3
 * million elements, so rows are made once and used again.
 */
public final class RoomTest {
    private static final long NEW_OBJECT = 20_000;
    private static final long SEARCHED = 1_000_000;
    private static final long EACH_LAW = 400;
    /** What the machine itself may make beside (its first calls load classes). */
    private static final long SLACK = 2_000;
    private static final int[] TEXT_FED = {0x62617273, 0x20696620, 0x67726970, 0x203d2032, 0x20202020};

    private static int wrong = 0;

    public static void main(String[] args) {
        // Once without looking, so that all classes are loaded.
        run(false);
        run(true);
        System.out.println(wrong == 0 ? "the room is kept" : wrong + " took too much room");
        if (wrong != 0) {
            System.exit(1);
        }
    }

    private static long made() {
        ThreadMXBean threads = (ThreadMXBean) ManagementFactory.getThreadMXBean();
        return threads.getThreadAllocatedBytes(Thread.currentThread().getId());
    }

    private static void atMost(boolean looked, String what, long bytes, long most) {
        if (looked && bytes > most) {
            wrong++;
            System.out.println(what + " made " + bytes + " bytes, at most " + most + " are due");
        }
    }

    private static void run(boolean looked) {
        long start = made();
        TurnedFloors x = new TurnedFloors();
        atMost(looked, "a new object", made() - start, NEW_OBJECT);

        start = made();
        for (int rank = 5; rank >= 0; rank--) {
            x.floor(rank, rank % 2);
            searchAll(x);
        }
        atMost(looked, "searches with each floor that came", made() - start, SEARCHED);

        start = made();
        for (int i = 0; i < 20; i++) {
            x.turn(1 + i % 6);
            searchAll(x);
        }
        atMost(looked, "searches behind those", made() - start, SLACK);

        start = made();
        laws(x, 30);
        atMost(looked, "30 laws", made() - start, 30 * EACH_LAW + SLACK);

        start = made();
        calls(x);
        atMost(looked, "all that makes no law", made() - start, SLACK);
    }

    private static void searchAll(TurnedFloors x) {
        x.fewest(-1);
        x.fewest(0);
        x.many();
        x.cheapest();
        x.worst(1);
        x.reach();
        x.comes(12345);
        x.view(5);
        x.compare(-1);
    }

    private static void laws(TurnedFloors x, int often) {
        x.image(0);
        for (int i = 0; i < often; i++) {
            x.feed(TEXT_FED[0], TEXT_FED[1], TEXT_FED[2], TEXT_FED[3], TEXT_FED[4]);
            x.force(x.law());
            x.back(0);
        }
    }

    private static void calls(TurnedFloors x) {
        for (int i = 0; i < 10; i++) {
            x.feed(0x7475726e, 0x20312074, 0x696d6573, 0x20323020, 0x20202020);
            x.orders();
            x.feed(0x7475726e, 0x20372020, 0x20202020, 0x20202020, 0x20202020);
            x.orders();
            x.feed(0, i, -i, 1, 2);
            x.law();
            x.feed(0, i, -i, 1, 2);
            x.row();
            x.right(i % 6);
            x.swap(i % 5);
            x.pass();
            x.undo();
            x.stays(1);
            x.seen(0, i % 6);
            x.was();
            x.look(0);
            x.few(20, 99);
            x.years(i, 60);
            x.image(1);
            x.back(1);
            x.terms(2, i);
            x.count(17);
            x.gaps();
        }
    }
}
