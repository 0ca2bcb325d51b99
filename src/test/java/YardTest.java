/** Promises 1 to 5: a new object, wall, ground, dock, bin. */
public final class YardTest {
    private static final Class<IndexOutOfBoundsException> INDEX = IndexOutOfBoundsException.class;
    private static final Class<IllegalArgumentException> ARGUMENT = IllegalArgumentException.class;
    private static final Class<IllegalStateException> STATE = IllegalStateException.class;
    private static final int[] NO_PLACES = {-1, 64, Integer.MIN_VALUE, Integer.MAX_VALUE};

    private static void aNewObjectIsAnEmptyYard() {
        Stepscout x = new Stepscout();
        for (int what = 0; what <= 12; what++) {
            Check.is("new yard(" + what + ")", x.yard(what), 0);
        }
        long digest = 5147;
        for (int what = 0; what <= 12; what++) {
            digest = digest * 31;
        }
        for (int place = 0; place < 64; place++) {
            int need = place / 8 + place % 8;
            digest = digest * 31 + need;
            int[] due = {0, 0, 0, need, 0, 0, -1};
            for (int what = 0; what <= 6; what++) {
                if (what != 4) {
                    Check.is("new ofPlace(" + place + ", " + what + ")", x.ofPlace(place, what), due[what]);
                }
            }
        }
        Check.is("new digest()", x.digest(), digest * 31 + 1);
        Check.is("new isSound()", x.isSound(), true);
        Check.fails("new possible(0)", INDEX, x, () -> x.possible(0));
        Check.fails("new ofBin(0, 0)", INDEX, x, () -> x.ofBin(0, 0));
    }

    private static void wallsAreCounted() {
        Stepscout x = new Stepscout();
        Check.is("first wall", x.wall(63, true), 1);
        Check.is("the same wall", x.wall(63, true), 1);
        Check.is("second wall", x.wall(1, true), 2);
        Check.is("a wall", x.ofPlace(63, 0), 1);
        Check.is("wall that never was", x.wall(62, false), 2);
        Check.is("no wall any more", x.wall(63, false), 1);
        Check.is("no wall", x.ofPlace(63, 0), 0);
        Check.is("walls", x.yard(2), 1);
    }

    private static void wallsAreRefused() {
        Stepscout x = new Stepscout();
        x.robot(2, -1);
        x.carry(0, 5);
        x.bin(7, 0, 0);
        x.wall(1, true);
        for (int place : NO_PLACES) {
            Check.fails("wall(" + place + ")", INDEX, x, () -> x.wall(place, true));
            Check.fails("no wall(" + place + ")", INDEX, x, () -> x.wall(place, false));
        }
        for (int place : new int[] {0, 5, 7}) {
            Check.fails("wall(" + place + ")", STATE, x, () -> x.wall(place, true));
            Check.fails("no wall(" + place + ")", STATE, x, () -> x.wall(place, false));
        }
        x.carry(0, 6);
        Check.is("where no robot is any more", x.wall(5, true), 2);
        x.dock(2);
        Check.is("where no dock is any more", x.wall(0, true), 3);
    }

    /** A robot that knows that it is at the DOCK or that it just slipped there (only 0 and 1 are sand). */
    private static Stepscout slippedAtTheDock() {
        Stepscout x = new Stepscout();
        x.ground(0, true, 0);
        x.ground(1, true, 0);
        x.robot(9, 0);
        x.step(0, 1);
        Check.is("slipped", x.ofRobot(0, 7), 1);
        Check.is("possible", x.possible(0), 3L);
        return x;
    }

    private static void doubtIsRenewed(String what, Stepscout x) {
        Check.is(what + " leaves the dock", x.possible(0), 1L);
        Check.is(what + " forgets the slip", x.after(0, 1, false), 2);
        Check.is(what + " leaves the column of the sum", x.ofRobot(0, 2), 1);
        Check.is(what + " leaves the row of the sum", x.ofRobot(0, 3), 0);
        x.carry(0, 9);
        x.look(0);
        Check.is("in the open", x.possible(0) & 1L << 9, 1L << 9);
    }

    private static void wallsRenewDoubt() {
        Stepscout x = slippedAtTheDock();
        x.wall(63, true);
        doubtIsRenewed("wall()", x);
        x.wall(63, true);
        Check.is("the same wall, away from the dock", x.possible(0), ~(1L << 63));
        x.look(0);
        x.wall(63, false);
        Check.is("no wall, away from the dock", x.possible(0), -1L);
        x.look(0);
        x.wall(8, true);
        Check.is("a wall, away from the dock", x.possible(0), ~(1L << 8));
        Check.is("the sum stays", x.ofRobot(0, 2), 1);
    }

    private static void groundIsTold() {
        Stepscout x = new Stepscout();
        Check.is("mark before", x.ground(9, true, 3), 0);
        Check.is("mark before", x.ground(9, true, 2), 3);
        Check.is("sand", x.ofPlace(9, 1), 1);
        Check.is("mark", x.ofPlace(9, 2), 2);
        Check.is("sand in all", x.yard(3), 1);
        Check.is("mark before", x.ground(63, true, 1), 0);
        Check.is("sand in all", x.yard(3), 2);
        Check.is("mark before", x.ground(9, false, 0), 2);
        Check.is("no sand", x.ofPlace(9, 1), 0);
        Check.is("no mark", x.ofPlace(9, 2), 0);
        Check.is("sand in all", x.yard(3), 1);
        Check.is("mark stays", x.ofPlace(63, 2), 1);
        x.wall(9, true);
        Check.is("ground of a wall", x.ground(9, true, 1), 0);
        Check.is("wall stays", x.ofPlace(9, 0), 1);
        Check.is("sand of a wall", x.yard(3), 2);
    }

    private static void groundIsRefused() {
        Stepscout x = new Stepscout();
        x.robot(3, 1);
        x.ground(63, true, 2);
        for (int place : NO_PLACES) {
            Check.fails("ground(" + place + ")", INDEX, x, () -> x.ground(place, true, 0));
            Check.fails("ground(" + place + ", mark 4)", INDEX, x, () -> x.ground(place, true, 4));
        }
        for (int mark : new int[] {-1, 4, Integer.MIN_VALUE, Integer.MAX_VALUE}) {
            Check.fails("mark " + mark, ARGUMENT, x, () -> x.ground(63, false, mark));
        }
        Check.is("sand as ahead", x.ofPlace(63, 1), 1);
        Check.is("mark as ahead", x.ofPlace(63, 2), 2);
    }

    private static void groundRenewsDoubt() {
        Stepscout x = slippedAtTheDock();
        x.ground(63, false, 0);
        doubtIsRenewed("ground()", x);
        x.wall(62, true);
        x.look(0);
        x.ground(9, false, 0);
        Check.is("ground, away from the dock", x.possible(0), ~(1L << 62));
        Check.is("the sum stays", x.ofRobot(0, 2), 1);
    }

    private static void theDockIsMoved() {
        Stepscout x = new Stepscout();
        x.robot(4, 1);
        x.robot(4, 1);
        x.carry(1, 20);
        x.wall(63, true);
        Check.is("dock before", x.dock(20), 0);
        Check.is("dock", x.yard(1), 20);
        Check.is("no robot is moved", x.ofRobot(0, 0), 0);
        Check.is("no robot is moved", x.ofRobot(1, 0), 20);
        Check.is("all is possible", x.possible(0), ~(1L << 63));
        Check.is("all is possible, also at the dock", x.possible(1), ~(1L << 63));
        Check.is("the sum stays", x.ofRobot(1, 2), 0);
        Check.is("the sum stays", x.ofRobot(1, 3), 0);
        Check.is("need of the dock", x.ofPlace(20, 3), 0);
        Check.is("need of the old one", x.ofPlace(0, 3), 6);
        x.charge(1);
        Check.is("charged", x.possible(1), 1L << 20);
        Check.is("the dock where it was", x.dock(20), 20);
        Check.is("all is possible again", x.possible(1), ~(1L << 63));
        Check.is("away from the dock", x.yard(12), 1);
        Check.is("sum after charging", x.ofRobot(1, 2) * 10 + x.ofRobot(1, 3), 42);

        Stepscout y = slippedAtTheDock();
        y.dock(0);
        y.look(0);
        Check.is("known by its corner", y.possible(0), 1L);
        Check.is("dock() forgets the slip", y.after(0, 1, false), 2);
    }

    private static void theDockIsMovedForAllRobots() {
        Stepscout x = new Stepscout();
        for (int robot = 0; robot < 3; robot++) {
            x.robot(2 + robot, robot);
            Check.is("the dock alone", x.possible(robot), 1L);
        }
        x.dock(9);
        for (int robot = 0; robot < 3; robot++) {
            Check.is("all is possible", x.possible(robot), -1L);
        }
        x.carry(1, 9);
        x.ground(3, true, 0);
        x.wall(4, true);
        for (int robot = 0; robot < 3; robot++) {
            Check.is("the dock alone for who is there", x.possible(robot), robot == 1 ? 1L << 9 : ~(1L << 4));
        }
    }

    private static void theDockIsRefused() {
        Stepscout x = new Stepscout();
        x.robot(4, 1);
        x.wall(63, true);
        for (int place : NO_PLACES) {
            Check.fails("dock(" + place + ")", INDEX, x, () -> x.dock(place));
        }
        Check.fails("dock on a wall", STATE, x, () -> x.dock(63));
        Check.is("dock", x.yard(1), 0);
    }

    private static void binsArePutUp() {
        Stepscout x = new Stepscout();
        x.robot(2, 0);
        Check.is("first bin", x.bin(0, 50, 0), 0);
        Check.is("second bin", x.bin(63, 0, 9), 1);
        Check.is("third bin, the same place", x.bin(63, 7, 2), 2);
        Check.is("bins", x.yard(5), 3);
        Check.is("fourth bin", x.bin(1, 1, 1), 3);
        int[][] due = {{0, 50, 0}, {63, 0, 9}, {63, 7, 2}, {1, 1, 1}};
        for (int bin = 0; bin < 4; bin++) {
            for (int what = 0; what < 3; what++) {
                Check.is("ofBin(" + bin + ", " + what + ")", x.ofBin(bin, what), due[bin][what]);
            }
        }
        Check.is("bins", x.yard(5), 4);
        Check.is("loads in bins", x.yard(6), 58);
        Check.is("loads ever", x.yard(10), 58);
        Check.is("spoilt", x.yard(9), 0);
        Check.is("no doubt by a bin", x.possible(0), 1L);
    }

    private static void binsAreRefused() {
        Stepscout x = new Stepscout();
        x.robot(2, 0);
        x.wall(9, true);
        for (int place : NO_PLACES) {
            Check.fails("bin(" + place + ")", INDEX, x, () -> x.bin(place, 0, 0));
            Check.fails("bin(" + place + ", loads -1)", INDEX, x, () -> x.bin(place, -1, 0));
        }
        for (int loads : new int[] {-1, 51, Integer.MIN_VALUE, Integer.MAX_VALUE}) {
            Check.fails("loads " + loads, ARGUMENT, x, () -> x.bin(1, loads, 0));
            Check.fails("loads on a wall " + loads, ARGUMENT, x, () -> x.bin(9, loads, 0));
        }
        for (int rate : new int[] {-1, 10, Integer.MIN_VALUE, Integer.MAX_VALUE}) {
            Check.fails("rate " + rate, ARGUMENT, x, () -> x.bin(1, 0, rate));
        }
        Check.fails("bin on a wall", STATE, x, () -> x.bin(9, 0, 0));
        for (int i = 0; i < 4; i++) {
            x.bin(10 + i, i, i);
        }
        Check.fails("a fifth bin", STATE, x, () -> x.bin(20, 1, 1));
        Check.fails("a fifth bin, nowhere", INDEX, x, () -> x.bin(64, 1, 1));
        Check.fails("a fifth bin, of too much", ARGUMENT, x, () -> x.bin(20, 51, 1));
    }

    public static void main(String[] arguments) {
        aNewObjectIsAnEmptyYard();
        wallsAreCounted();
        wallsAreRefused();
        wallsRenewDoubt();
        groundIsTold();
        groundIsRefused();
        groundRenewsDoubt();
        theDockIsMoved();
        theDockIsMovedForAllRobots();
        theDockIsRefused();
        binsArePutUp();
        binsAreRefused();
        Check.end("YardTest");
    }
}
