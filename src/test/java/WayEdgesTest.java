/** The edges that section 4 and the promises 13, 15, 17, 20 and 24 name: WAYS, NEEDS and SURE rows, and none. */
public final class WayEdgesTest {
    private static final Class<IllegalStateException> STATE = IllegalStateException.class;
    private static final int NONE = -1;
    private static final int UP = 0;
    private static final int RIGHT = 1;
    private static final int DOWN = 2;
    private static final int LEFT = 3;

    private static final int COLUMN = 2;
    private static final int ROW = 3;
    private static final int SUM_POSSIBLE = 9;
    private static final int NEED = 10;
    private static final int MUST_TURN = 11;
    private static final int WAY = 12;

    private static void walls(Stepscout x, int... places) {
        for (int place : places) {
            x.wall(place, true);
        }
    }

    private static void sand(Stepscout x, int... places) {
        for (int place : places) {
            x.ground(place, true, 0);
        }
    }

    /** Only these PLACES are no WALL; the DOCK has to be one of them already. */
    private static void onlyOpen(Stepscout x, int... open) {
        for (int place = 0; place < 64; place++) {
            boolean isOpen = false;
            for (int one : open) {
                isOpen |= one == place;
            }
            if (!isOpen) {
                x.wall(place, true);
            }
        }
    }

    private static void noWay(String what, Stepscout x) {
        Check.is(what + ": way", x.way(0), "none");
        Check.is(what + ": its length", x.ofRobot(0, WAY), NONE);
        Check.fails(what + ": home", STATE, x, () -> x.home(0));
    }

    private static void isWay(String what, Stepscout x, String way) {
        Check.is(what + ": way", x.way(0), way);
        Check.is(what + ": its length", x.ofRobot(0, WAY), way.length());
    }

    /** "none, if SUM is outside": a PLACE beyond each end, many PLACES beyond, and back again. */
    private static void sumsOutside() {
        // the dock, where the robot is carried, the side, column and row behind it
        int[][] cases = {{3, 59, UP, 3, -1}, {31, 24, RIGHT, 8, 3}, {60, 4, DOWN, 4, 8}, {32, 39, LEFT, -1, 4},
            {0, 63, UP, 0, -1}, {0, 63, LEFT, -1, 0}, {63, 0, DOWN, 7, 8}, {63, 0, RIGHT, 8, 7},
            {7, 56, UP, 7, -1}, {7, 56, RIGHT, 8, 0}, {56, 7, DOWN, 0, 8}, {56, 7, LEFT, -1, 7}};
        for (int[] one : cases) {
            Stepscout x = new Stepscout();
            x.dock(one[0]);
            x.robot(2, -1);
            isWay("at the dock", x, "");
            x.carry(0, one[1]);
            x.step(0, one[2]);
            String what = "from " + one[0] + " to " + one[2];
            Check.is(what + ": column", x.ofRobot(0, COLUMN), one[3]);
            Check.is(what + ": row", x.ofRobot(0, ROW), one[4]);
            Check.is(what + ": not possible", x.ofRobot(0, SUM_POSSIBLE), 0);
            noWay(what, x);
            for (int i = 0; i < 6; i++) {
                x.step(0, one[2]);
            }
            noWay(what + ", seven", x);
            int far = one[2] == UP || one[2] == LEFT ? -7 : 14;
            Check.is(what + ": seven beyond", x.ofRobot(0, one[2] == UP || one[2] == DOWN ? ROW : COLUMN), far);
            for (int i = 0; i < 7; i++) {
                x.step(0, (one[2] + 2) % 4);
            }
            isWay(what + ", back", x, "");
            Check.is(what + ": it is inside, and not possible", x.ofRobot(0, SUM_POSSIBLE), 0);
        }
    }

    /** A SUM outside stays there through wall(), ground(), dock() and carry(); charging brings it in. */
    private static void sumsStayOutside() {
        Stepscout x = new Stepscout();
        x.robot(2, -1);
        x.carry(0, 63);
        x.step(0, UP);
        x.wall(1, true);
        noWay("wall()", x);
        x.ground(1, true, 0);
        noWay("ground()", x);
        x.dock(55);
        noWay("dock()", x);
        x.carry(0, 55);
        noWay("carry()", x);
        Check.is("must it turn", x.ofRobot(0, MUST_TURN), 0);
        x.charge(0);
        isWay("charge()", x, "");
    }

    /** ".. or a WALL, or there is no way". */
    private static void sumsInWallsAndCells() {
        Stepscout x = new Stepscout();
        x.robot(2, -1);
        x.step(0, RIGHT);
        x.step(0, RIGHT);
        isWay("two steps", x, "ll");
        x.carry(0, 63);
        x.wall(2, true);
        noWay("a wall", x);
        Check.is("no wall is possible", x.ofRobot(0, SUM_POSSIBLE), 0);
        x.wall(2, false);
        isWay("no wall any more", x, "ll");
        walls(x, 1, 10);
        isWay("by the last side", x, "rddllulu");
        x.wall(3, true);
        noWay("a cell", x);
        Check.is("the sum is possible", x.ofRobot(0, SUM_POSSIBLE), 1);
        x.wall(1, false);
        isWay("open again", x, "ll");
        walls(x, 1, 8);
        noWay("the dock is walled up", x);
    }

    /** "(of several that whose first SIDE is the smallest, then the second, and so on)". */
    private static void theFirstOfSeveralWays() {
        Object[][] cases = {{9, 0, "ul"}, {14, 7, "ur"}, {49, 56, "dl"}, {54, 63, "rd"}, {0, 18, "rrdd"},
            {18, 0, "uull"}, {63, 45, "uull"}, {45, 63, "rrdd"}, {7, 21, "ddll"}, {21, 7, "uurr"},
            {56, 42, "uurr"}, {42, 56, "ddll"}, {0, 63, "rrrrrrrddddddd"}, {63, 0, "uuuuuuulllllll"}};
        for (Object[] one : cases) {
            Stepscout x = new Stepscout();
            x.dock((Integer) one[0]);
            x.robot(2, -1);
            x.dock((Integer) one[1]);
            isWay("from " + one[0] + " to " + one[1], x, (String) one[2]);
            sand(x, 9, 18, 27, 36, 45);
            isWay("over sand from " + one[0] + " to " + one[1], x, (String) one[2]);
        }
        Stepscout y = new Stepscout();
        y.dock(18);
        y.robot(2, -1);
        y.dock(36);
        y.wall(28, true);
        isWay("the second step is blocked", y, "rddr");
        y.wall(27, true);
        isWay("only round it", y, "ddrr");
        y.wall(35, true);
        isWay("far round", y, "rrrddl");
    }

    /** NEED: 1 from open ground, 2 from SAND; the DOCK's own ground does not matter. */
    private static void needsOfSand() {
        Stepscout x = new Stepscout();
        Check.is("dock", x.ofPlace(0, 3), 0);
        sand(x, 0);
        Check.is("dock on sand", x.ofPlace(0, 3), 0);
        Check.is("beside it", x.ofPlace(1, 3), 1);
        sand(x, 1);
        Check.is("from sand", x.ofPlace(1, 3), 2);
        Check.is("over sand", x.ofPlace(2, 3), 3);
        Check.is("round the sand", x.ofPlace(9, 3), 2);
        sand(x, 8);
        Check.is("no way round", x.ofPlace(9, 3), 3);
        x.wall(9, true);
        Check.is("a wall", x.ofPlace(9, 3), NONE);
        Stepscout y = new Stepscout();
        sand(y, 1, 2, 3);
        Check.is("straight over sand or two more round it", y.ofPlace(4, 3), 6);
        y.wall(11, true);
        Check.is("straight over sand", y.ofPlace(4, 3), 7);
    }

    /** "(NONE, if from one of them there is no way)"; a WALL is none of them. */
    private static void needIsNone() {
        Stepscout x = new Stepscout();
        x.robot(2, -1);
        walls(x, 62, 55);
        Check.is("need of the dock", x.ofRobot(0, NEED), 0);
        Check.is("the corner", x.ofPlace(63, 3), NONE);
        Check.is("beside the wall", x.ofPlace(54, 3), 12);
        x.carry(0, 5);
        Check.is("one of them has no way", x.ofRobot(0, NEED), NONE);
        Check.is("it must turn", x.ofRobot(0, MUST_TURN), 1);
        Check.is("no sure row", x.sure(0), "none");
        x.look(0);
        Check.is("seen", x.ofRobot(0, NEED), 6);
        Check.is("it need not turn", x.ofRobot(0, MUST_TURN), 0);
        x.wall(63, true);
        Check.is("a wall is not possible", x.ofRobot(0, NEED), 12);
        x.carry(0, 5);
        Check.is("the same by carrying", x.ofRobot(0, NEED), 12);
        x.wall(63, false);
        x.wall(55, false);
        Check.is("the corner is open", x.ofRobot(0, NEED), 14);
    }

    /** A way that winds through the whole yard, over SAND alone: a NEED above the number of PLACES. */
    private static void theGreatestNeed() {
        Stepscout x = new Stepscout();
        x.dock(0);
        x.robot(2, -1);
        for (int place = 0; place < 64; place++) {
            x.ground(place, true, 0);
        }
        for (int row = 1; row < 8; row += 2) {
            int gap = row % 4 == 1 ? 7 : 0;
            for (int column = 0; column < 8; column++) {
                if (column != gap) {
                    x.wall(row * 8 + column, true);
                }
            }
        }
        Check.is("through three rows and three gaps", x.ofPlace(55, 3), 2 * 27);
        Check.is("into the last gap", x.ofPlace(56, 3), 2 * 35);
        x.carry(0, 56);
        Check.is("need of the robot", x.ofRobot(0, NEED), 70);
        Check.is("need not turn", x.ofRobot(0, MUST_TURN), 0);
        for (int i = 0; i < 14; i++) {
            x.step(0, LEFT);
        }
        x.carry(0, 56);
        Check.is("70 of 72", x.ofRobot(0, MUST_TURN), 0);
        Check.is("battery", x.ofRobot(0, 1), 72);
        x.step(0, LEFT);
        x.carry(0, 56);
        Check.is("70 of 70", x.ofRobot(0, MUST_TURN), 1);
    }

    /** "It MUST TURN, if NEED is NONE, or more than BATTERY less 2". */
    private static void whenToTurn() {
        Stepscout x = new Stepscout();
        x.robot(2, -1);
        while (x.ofRobot(0, 1) > 14) {
            x.step(0, UP);
        }
        for (int battery = 14; battery >= 0; battery--) {
            x.carry(0, 0);
            x.look(0);
            Check.is("need of the dock", x.ofRobot(0, NEED), 0);
            Check.is("at the dock with " + battery, x.ofRobot(0, MUST_TURN), battery < 2 ? 1 : 0);
            x.carry(0, 7);
            x.look(0);
            Check.is("need of the corner", x.ofRobot(0, NEED), 7);
            Check.is("in the corner with " + battery, x.ofRobot(0, MUST_TURN), battery < 9 ? 1 : 0);
            if (battery > 0) {
                x.step(0, UP);
            }
        }
        Check.is("no battery", x.ofRobot(0, 1), 0);
    }

    /** "a row of at most 6 SIDES": six will do, seven will not. */
    private static void sixSidesAtMost() {
        String[] due = {"", "l", "ll", "lll", "llll", "lllll", "llllll", "none"};
        for (int column = 0; column <= 7; column++) {
            Stepscout x = new Stepscout();
            x.robot(9, -1);
            for (int i = 0; i < column; i++) {
                x.step(0, RIGHT);
            }
            Check.is("from the column " + column, x.sure(0), due[column]);
            Check.is("its way", x.way(0), "lllllll".substring(0, column));
            Check.is("sound", x.isSound(), true);
        }
        Stepscout y = new Stepscout();
        y.robot(9, -1);
        for (int i = 0; i < 3; i++) {
            y.step(0, RIGHT);
            y.step(0, DOWN);
        }
        Check.is("three up, three left", y.sure(0), "uuulll");
        y.step(0, DOWN);
        Check.is("seven", y.sure(0), "none");
        y.carry(0, 63);
        y.look(0);
        Check.is("far away", y.sure(0), "none");
    }

    /** "("" if the DOCK alone is POSSIBLE)", wherever the ROBOT's SUM is; not, if another one is it too. */
    private static void theDockAlone() {
        Stepscout x = new Stepscout();
        x.dock(63);
        x.robot(9, -1);
        Check.is("the dock alone", x.sure(0), "");
        x.step(0, LEFT);
        Check.is("beside it", x.sure(0), "r");
        x.carry(0, 63);
        Check.is("all are possible", x.sure(0), "none");
        x.look(0);
        Check.is("the dock alone", x.sure(0), "");
        Check.is("the sum is beside it", x.ofRobot(0, COLUMN), 6);
        x.ground(63, true, 0);
        x.step(0, LEFT);
        Check.is("the dock or beside it", x.sure(0), "r");
    }

    /** A row is walked to its end: who is at the DOCK ahead of that goes on, and has to come back by a bump. */
    private static void rowsGoOnAtTheDock() {
        Stepscout x = new Stepscout();
        x.dock(27);
        x.robot(9, -1);
        sand(x, 27);
        x.step(0, RIGHT);
        Check.is("27 or 28", x.possible(0), 1L << 27 | 1L << 28);
        Check.is("nothing brings them together", x.sure(0), "none");
        x.wall(26, true);
        x.carry(0, 27);
        x.charge(0);
        x.step(0, RIGHT);
        Check.is("a wall does", x.sure(0), "l");
        Check.is("sound", x.isSound(), true);
    }

    private static void threeInARow() {
        String[] due = {"ll", "rrl", "rr"};
        for (int dock = 8; dock <= 10; dock++) {
            Stepscout x = new Stepscout();
            x.dock(dock);
            x.robot(9, -1);
            onlyOpen(x, 8, 9, 10);
            x.carry(0, 9);
            Check.is("all three", x.possible(0), 7L << 8);
            Check.is("dock at " + dock, x.sure(0), due[dock - 8]);
            Check.is("nothing is changed", x.possible(0), 7L << 8);
            Check.is("sound", x.isSound(), true);
        }
    }

    /** "the shortest one, of several that with the smallest first SIDE, then the second one, and so on". */
    private static void theFirstOfSeveralRows() {
        Stepscout x = new Stepscout();
        x.dock(9);
        x.robot(9, -1);
        onlyOpen(x, 9, 10, 17, 18);
        x.carry(0, 18);
        Check.is("four in a square", x.possible(0), 3L << 9 | 3L << 17);
        Check.is("up is ahead of left", x.sure(0), "ul");
        x.dock(10);
        Check.is("up is ahead of right", x.sure(0), "ur");
        x.dock(17);
        Check.is("down is ahead of left", x.sure(0), "dl");
        x.dock(18);
        Check.is("right is ahead of down", x.sure(0), "rd");
    }

    /** Seven in a row come together by six bumps, eight would need seven. */
    private static void theLongestRow() {
        Stepscout x = new Stepscout();
        x.robot(9, -1);
        onlyOpen(x, 0, 1, 2, 3, 4, 5, 6);
        x.carry(0, 6);
        Check.is("seven", x.sure(0), "llllll");
        Check.is("need", x.ofRobot(0, NEED), 6);
        Check.is("sound", x.isSound(), true);
        x.dock(1);
        Check.is("six and one back", x.sure(0), "none");
        x.dock(0);
        x.wall(7, false);
        Check.is("eight", x.ofRobot(0, 8), 8);
        Check.is("eight", x.sure(0), "none");
        x.look(0);
        Check.is("those between the ends", x.sure(0), "llllll");
    }

    public static void main(String[] arguments) {
        sumsOutside();
        sumsStayOutside();
        sumsInWallsAndCells();
        theFirstOfSeveralWays();
        needsOfSand();
        needIsNone();
        theGreatestNeed();
        whenToTurn();
        sixSidesAtMost();
        theDockAlone();
        rowsGoOnAtTheDock();
        threeInARow();
        theFirstOfSeveralRows();
        theLongestRow();
        Check.end("WayEdgesTest");
    }
}
