import java.lang.management.ManagementFactory;
import com.sun.management.ThreadMXBean;

/** All calls of a run live in one room: what an object and its 512 calls make is counted in bytes. */
public final class RoomTest {
    private static final int CALLS = 512;
    private static final long MOST_FOR_AN_OBJECT = 10_000;
    private static final long MOST_FOR_CALLS = 1_000_000;
    private static final String[] NAMES = {"wall", "ground", "dock", "refused", "look", "carry", "home", "ofRobot",
        "ofPlace", "way", "row", "after", "lookWorst", "sure", "isSound", "digest"};

    private static final ThreadMXBean COUNTER = (ThreadMXBean) ManagementFactory.getThreadMXBean();

    private static long made() {
        return COUNTER.getThreadAllocatedBytes(Thread.currentThread().getId());
    }

    /** Three ROBOTS that may be in several PLACES, a WAY of some STEPS each, and all BINS. */
    private static Stepscout lived() {
        Stepscout x = new Stepscout();
        for (int place = 0; place < 64; place++) {
            x.ground(place, place % 3 == 0, place % 4);
        }
        for (int i = 0; i < 4; i++) {
            x.bin(9 + i, 40, 9);
        }
        for (int i = 0; i < 3; i++) {
            x.robot(4, i);
            for (int side = 1; side < 7; side++) {
                x.step(i, side % 2 == 0 ? 1 : 2);
            }
        }
        return x;
    }

    private static void refused(Stepscout x, int i) {
        try {
            x.step(3 + i, 0);
        } catch (IndexOutOfBoundsException e) {
            return;
        }
        Check.is("step of no robot", "answered", "thrown");
    }

    private static void call(Stepscout x, int kind, int i) {
        switch (kind) {
            case 0: x.wall(63, i % 2 == 0); break;
            case 1: x.ground(i % 64, i % 2 == 0, i % 4); break;
            case 2: x.dock(i % 64); break;
            case 3: refused(x, i); break;
            case 4: x.look(i % 3); break;
            case 5: x.carry(i % 3, i % 64); break;
            case 6: x.home(i % 3); break;
            case 7: x.ofRobot(i % 3, i % 13); break;
            case 8: x.ofPlace(i % 64, i % 7); break;
            case 9: x.way(i % 3); break;
            case 10: x.row(i % 8, i % 3); break;
            case 11: x.after(i % 3, i % 4, i % 2 == 0); break;
            case 12: x.lookWorst(i % 3); break;
            case 13: x.sure(i % 3); break;
            case 14: x.isSound(); break;
            default: x.digest(); break;
        }
    }

    private static long madeByCalls(int kind) {
        Stepscout x = lived();
        long before = made();
        // as many as are left behind lived()
        for (int i = 0; i < CALLS - 90; i++) {
            call(x, kind, i);
        }
        return made() - before;
    }

    private static void isFew(String what, long bytes, long most) {
        Check.is(what + " made " + bytes + " bytes: few", bytes <= most, true);
    }

    public static void main(String[] arguments) {
        // what the machine itself makes as a class is used the first time does not count
        lived().digest();
        long before = made();
        Stepscout x = new Stepscout();
        isFew("an object", made() - before, MOST_FOR_AN_OBJECT);
        Check.is("it is kept", x.isSound(), true);
        for (int kind = 0; kind < NAMES.length; kind++) {
            madeByCalls(kind);
            isFew(NAMES[kind], madeByCalls(kind), MOST_FOR_CALLS);
        }
        Check.end("RoomTest");
    }
}
