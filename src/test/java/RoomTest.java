import com.sun.management.ThreadMXBean;
import java.lang.management.ManagementFactory;
import java.util.function.Consumer;

/**
 * What an object and its 512 calls take of the machine's room, in bytes: trials of rows make no new
 * objects, and what else is made stays far below the 7.3 million fields that a run may have.
 */
public final class RoomTest {
    // What measuring itself may take.
    private static final long NEAR_NOTHING = 2000;
    private static final int CALLS = 512;

    private static final ThreadMXBean THREADS = (ThreadMXBean) ManagementFactory.getThreadMXBean();

    public static void main(String[] args) {
        newObject();
        callsThatMakeNothing();
        callsThatMakeObjects();
        fullObject();
        Check.finish("RoomTest");
    }

    /** The bytes that so many calls take; a first one, not counted, loads what it needs. */
    private static long bytesOf(TightFive club, int many, Consumer<TightFive> call) {
        call.accept(club);
        long before = THREADS.getCurrentThreadAllocatedBytes();
        for (int i = 0; i < many; i++) {
            call.accept(club);
        }
        return THREADS.getCurrentThreadAllocatedBytes() - before;
    }

    private static void takesAtMost(String what, long bytes, long most) {
        Check.is(what + " take " + bytes + ", at most " + most + " bytes", bytes <= most, true);
    }

    /** One is on with 6 jokes of 4 parts each, before 8 tables. */
    private static TightFive great() {
        TightFive club = Clubs.solo(100, 30, 100);
        for (int i = 0; i < 8; i++) {
            club.table(12, 0, 255, 0);
        }
        for (int i = 0; i < 6; i++) {
            int joke = Clubs.own(club, i, 50);
            for (int tag = 0; tag < 3; tag++) {
                club.tag(joke, 50, 5);
            }
        }
        return club;
    }

    private static void newObject() {
        takesAtMost("100 new objects", bytesOf(null, 100, c -> new TightFive()), 100 * 4000 + NEAR_NOTHING);
    }

    private static void callsThatMakeNothing() {
        makesNothing("best", c -> c.best(600));
        makesNothing("bestAt", c -> c.bestAt(600, 0));
        makesNothing("expect", c -> c.expect(5));
        makesNothing("tell", c -> c.tell(5, 20));
        makesNothing("drink", c -> c.drink(7, 9));
        makesNothing("rewrite", c -> c.rewrite(0, 50));
        makesNothing("checksum", TightFive::checksum);
        makesNothing("rank", c -> c.rank(0));
        makesNothing("stolen", c -> c.stolen(0));
        makesNothing("meanMood", TightFive::meanMood);
        TightFive few = Clubs.running();
        takesAtMost("isTrue of 3 jokes", bytesOf(few, 400, TightFive::isTrue), NEAR_NOTHING);
    }

    private static void makesNothing(String what, Consumer<TightFive> call) {
        takesAtMost(what, bytesOf(great(), 400, call), NEAR_NOTHING);
    }

    private static void callsThatMakeObjects() {
        long sets = bytesOf(great(), CALLS / 4, c -> Clubs.change(c, 0));
        takesAtMost("bookings", sets, CALLS * 100 + NEAR_NOTHING);
        long hecklers = bytesOf(great(), CALLS / 2, Clubs::cheer);
        takesAtMost("hecklers", hecklers, CALLS * 100 + NEAR_NOTHING);
    }

    private static void fullObject() {
        takesAtMost("a full object", bytesOf(null, 10, c -> Clubs.full()), 10 * 8000 + NEAR_NOTHING);
    }
}
