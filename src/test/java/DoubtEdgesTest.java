/** The edges that section 3 and the promises 8, 9, 16, 22 and 23 name: BLOCKS' ends, the PLACE 63, looks. */
public final class DoubtEdgesTest {
    private static final int UP = 0;
    private static final int RIGHT = 1;
    private static final int DOWN = 2;
    private static final int LEFT = 3;

    private static final long SIGN = Long.MIN_VALUE;
    private static final long TOP_ROW = 0xFFL;
    private static final long BOTTOM_ROW = 0xFFL << 56;
    private static final long LEFT_COLUMN = 0x0101010101010101L;
    private static final long RIGHT_COLUMN = LEFT_COLUMN << 7;

    private static void sand(Stepscout x, int... places) {
        for (int place : places) {
            x.ground(place, true, 0);
        }
    }

    private static void sandEverywhere(Stepscout x) {
        for (int place = 0; place < 64; place++) {
            x.ground(place, true, 0);
        }
    }

    /** "if there need not have been one in this BLOCK ahead of it": a PLACE more with each BLOCK begun. */
    private static void aSlipInEachBlock() {
        for (int every = 2; every <= 9; every++) {
            Stepscout x = new Stepscout();
            sandEverywhere(x);
            x.robot(every, -1);
            for (int steps = 1; steps <= 7; steps++) {
                x.step(0, RIGHT);
                int blocks = (steps + every - 1) / every;
                long due = 0;
                for (int place = steps - blocks; place <= steps; place++) {
                    due |= 1L << place;
                }
                Check.is("every " + every + ", " + steps + " steps", x.possible(0), due);
                Check.is("how many", x.ofRobot(0, 8), blocks + 1);
            }
        }
    }

    /** The first STEP of a BLOCK forgets the slip, the last one does not: a long BLOCK, bump by bump. */
    private static void theBlocksEnds() {
        for (int every = 2; every <= 9; every++) {
            Stepscout x = new Stepscout();
            sand(x, 0, 1);
            x.robot(every, -1);
            x.step(0, RIGHT);
            for (int steps = 1; steps < every; steps++) {
                String what = "every " + every + ", behind " + steps + " steps";
                Check.is(what + ": 0 with a slip, 1 without", x.possible(0), 3L);
                Check.is(what + ": 0 comes to 8, 1 may slip", x.after(0, DOWN, false), 3);
                Check.is(what + ": 0 comes to 1", x.after(0, RIGHT, false), 2);
                Check.is(what + ": a bump", x.step(0, UP), true);
            }
            Check.is("a new block: both may slip", x.after(0, DOWN, false), 4);
            Check.is("a new block: 0, 1 and 2", x.after(0, RIGHT, false), 3);
            x.step(0, DOWN);
            Check.is("four are possible", x.possible(0), 1L | 1L << 1 | 1L << 8 | 1L << 9);
            Check.is("those with a slip have none", x.after(0, UP, false), 2);
        }
    }

    /** A slip is thought of only where it is SAND and the SIDE is not BLOCKED. */
    private static void noSlipElsewhere() {
        Stepscout x = new Stepscout();
        sand(x, 1);
        x.robot(2, -1);
        Check.is("onto sand", x.after(0, RIGHT, false), 1);
        x.step(0, RIGHT);
        Check.is("known", x.possible(0), 2L);
        Check.is("a bump on sand", x.after(0, UP, true), 1);
        Check.is("no slip into a bump", x.after(0, UP, false), 0);
        Check.is("from sand", x.after(0, DOWN, false), 2);
        x.step(0, UP);
        Check.is("the bump leaves no doubt", x.possible(0), 2L);
    }

    /** "All that is POSSIBLE by CHARGING, CARRYING, wall(), ground() or dock() is taken as without a slip". */
    private static void slipsAreForgotten() {
        for (int how = 0; how < 5; how++) {
            Stepscout x = new Stepscout();
            sand(x, 0, 1);
            x.robot(9, 0);
            x.step(0, RIGHT);
            Check.is("slipped", x.ofRobot(0, 7), 1);
            x.look(0);
            Check.is("known, with a slip", x.after(0, RIGHT, false), 1);
            switch (how) {
                case 0: x.charge(0); break;
                case 1: x.carry(0, 0); break;
                case 2: x.wall(63, false); break;
                case 3: x.ground(63, false, 0); break;
                default: x.dock(0); break;
            }
            x.look(0);
            Check.is("known again by " + how, x.possible(0), 1L);
            Check.is("as without a slip by " + how, x.after(0, RIGHT, false), 2);
            x.step(0, RIGHT);
            Check.is("a slip or none", x.possible(0), 3L);
            Check.is("no second one", x.after(0, DOWN, false), 3);
        }
    }

    /** A PLACE where one may have slipped is not POSSIBLE any more, if the DOCK alone is, or if it is a WALL now. */
    private static void placesOfSlipsAreForgotten() {
        for (int how = 0; how < 4; how++) {
            Stepscout x = new Stepscout();
            sand(x, 8);
            x.robot(9, -1);
            x.step(0, DOWN);
            x.step(0, UP);
            Check.is("slipped at 8, or not", x.possible(0), 1L | 1L << 8);
            switch (how) {
                case 0: x.charge(0); break;
                case 1: x.wall(63, true); break;
                case 2: x.ground(63, true, 1); break;
                default: x.wall(8, true); break;
            }
            Check.is("the dock alone by " + how, x.possible(0), 1L);
        }
        Stepscout y = new Stepscout();
        sand(y, 8);
        y.robot(9, -1);
        y.step(0, DOWN);
        y.step(0, UP);
        y.step(0, RIGHT);
        Check.is("slipped at 8, or not", y.possible(0), 1L << 1 | 1L << 9);
        y.wall(9, true);
        Check.is("no wall is possible", y.possible(0), ~(1L << 9));
    }

    /** "With each wall() and ground() the same goes for all ROBOTS, but for those that are at the DOCK". */
    private static void changesForEachRobot() {
        for (int how = 0; how < 3; how++) {
            Stepscout x = new Stepscout();
            x.dock(9);
            x.robot(9, -1);
            x.robot(9, -1);
            x.robot(9, -1);
            x.wall(63, true);
            x.carry(0, 0);
            x.look(0);
            x.step(2, RIGHT);
            x.carry(1, 9);
            switch (how) {
                case 0: x.wall(62, true); break;
                case 1: x.wall(62, false); break;
                default: x.ground(62, true, 1); break;
            }
            long open = how == 0 ? ~(3L << 62) : ~(1L << 63);
            Check.is("away, in a corner", x.possible(0), open);
            Check.is("carried to the dock", x.possible(1), 1L << 9);
            Check.is("away, beside the dock", x.possible(2), open);
            Check.is("the sum of who is away stays", x.ofRobot(2, 2), 2);
            Check.is("the sum of who was carried stays", x.ofRobot(0, 2) * 10 + x.ofRobot(0, 3), 11);
            x.dock(10);
            for (int robot = 0; robot < 3; robot++) {
                Check.is("by dock() for each", x.possible(robot), open);
            }
        }
    }

    /** "(SUM stays there, too)": one that stands at the DOCK with a SUM elsewhere. */
    private static void theSumStaysAtTheDock() {
        Stepscout x = new Stepscout();
        x.robot(9, -1);
        x.step(0, RIGHT);
        x.carry(0, 0);
        x.wall(63, true);
        Check.is("the dock alone", x.possible(0), 1L);
        Check.is("the sum is beside it", x.ofRobot(0, 2), 1);
        Check.is("it is not possible", x.ofRobot(0, 9), 0);
        x.ground(0, false, 3);
        Check.is("the sum is beside it", x.ofRobot(0, 2), 1);
        x.charge(0);
        Check.is("it is possible", x.ofRobot(0, 9), 1);
    }

    /** "the set of POSSIBLE PLACES (the PLACE 63 as the sign)". */
    private static void thePlace63() {
        Stepscout x = new Stepscout();
        x.dock(63);
        x.robot(9, -1);
        Check.is("63 alone", x.possible(0), SIGN);
        Check.is("how many", x.ofRobot(0, 8), 1);
        Check.is("the sum is possible", x.ofRobot(0, 9), 1);
        Check.is("need", x.ofRobot(0, 10), 0);
        Check.is("a look", x.lookWorst(0), 1);
        Check.is("row", x.row(7, 0), ".......o");
        Check.is("sure", x.sure(0), "");
        int[][] due = {{UP, 0, 1}, {RIGHT, 1, 0}, {DOWN, 1, 0}, {LEFT, 0, 1}};
        for (int[] one : due) {
            Check.is("bump to " + one[0], x.after(0, one[0], true), one[1]);
            Check.is("step to " + one[0], x.after(0, one[0], false), one[2]);
        }
        x.step(0, DOWN);
        Check.is("bumped below", x.possible(0), SIGN);
        x.step(0, UP);
        Check.is("up", x.possible(0), 1L << 55);
        x.step(0, DOWN);
        Check.is("down", x.possible(0), SIGN);
        x.step(0, LEFT);
        Check.is("left", x.possible(0), 1L << 62);
        x.step(0, RIGHT);
        Check.is("right", x.possible(0), SIGN);
        sand(x, 63);
        Check.is("ground at the dock", x.possible(0), SIGN);
        x.step(0, LEFT);
        Check.is("a slip at 63", x.possible(0), SIGN | 1L << 62);
        Check.is("sure", x.sure(0), "r");
        Check.is("row", x.row(7, 0), "......o?");
        x.carry(0, 0);
        Check.is("all", x.possible(0), -1L);
        Check.is("how many", x.ofRobot(0, 8), 64);
        x.wall(62, true);
        Check.is("all but 62", x.possible(0), ~(1L << 62));
    }

    /** Nobody leaves the yard and comes in again at its other end. */
    private static void theYardsEnds() {
        long[] blocked = {TOP_ROW, RIGHT_COLUMN, BOTTOM_ROW, LEFT_COLUMN};
        long[] reached = {~BOTTOM_ROW, ~LEFT_COLUMN, ~TOP_ROW, ~RIGHT_COLUMN};
        int[] bumpers = {3, 31, 59, 24};
        for (int side = 0; side < 4; side++) {
            Stepscout x = new Stepscout();
            x.robot(9, -1);
            x.carry(0, 27);
            Check.is("bump to " + side, x.after(0, side, true), 8);
            Check.is("step to " + side, x.after(0, side, false), 56);
            x.step(0, side);
            Check.is("behind a step to " + side, x.possible(0), reached[side]);
            x.carry(0, bumpers[side]);
            x.step(0, side);
            Check.is("behind a bump to " + side, x.possible(0), blocked[side]);
        }
    }

    /** "it sees the MARK of its PLACE, and which SIDES are BLOCKED": each of the two takes PLACES away. */
    private static void looksTakeAway() {
        Stepscout x = new Stepscout();
        x.ground(27, true, 2);
        x.ground(28, false, 2);
        x.ground(7, false, 2);
        x.robot(9, -1);
        x.carry(0, 28);
        Check.is("mark 2, nothing blocked", x.look(0), 32);
        Check.is("sand is not seen", x.possible(0), 1L << 27 | 1L << 28);
        Check.is("looked again", x.look(0), 32);
        Check.is("nothing new", x.possible(0), 1L << 27 | 1L << 28);
        x.carry(0, 7);
        Check.is("mark 2 in a corner", x.look(0), 32 + 3);
        Check.is("the corner alone", x.possible(0), 1L << 7);
        x.carry(0, 3);
        Check.is("the upper end", x.look(0), 1);
        Check.is("six are like that", x.possible(0), 0b01111110L);
        x.carry(0, 36);
        x.look(0);
        Check.is("the inside less two", x.ofRobot(0, 8), 34);
    }

    /** A look only takes away: who is known elsewhere is not found again by what looks the same. */
    private static void looksBringNothingBack() {
        Stepscout x = new Stepscout();
        sand(x, 10, 11);
        x.dock(10);
        x.robot(9, -1);
        x.step(0, RIGHT);
        Check.is("slipped or not", x.possible(0), 1L << 10 | 1L << 11);
        x.look(0);
        Check.is("all inside look the same", x.possible(0), 1L << 10 | 1L << 11);
        Check.is("the worst look", x.lookWorst(0), 2);
        x.step(0, UP);
        x.look(0);
        Check.is("it is above: 10 and 11 had slipped or not", x.possible(0), 1L << 2 | 1L << 3);
    }

    /** "of all that a LOOK can show .. the greatest number": of marks and of blocked SIDES. */
    private static void theWorstLook() {
        Stepscout x = new Stepscout();
        x.robot(9, -1);
        x.dock(63);
        Check.is("36 inside", x.lookWorst(0), 36);
        for (int place = 9; place < 54; place++) {
            if (place % 8 != 0 && place % 8 != 7) {
                x.ground(place, false, place % 4);
            }
        }
        int[] counts = new int[4];
        for (int place = 9; place <= 54; place++) {
            if (place % 8 != 0 && place % 8 != 7) {
                counts[place == 54 ? 0 : place % 4]++;
            }
        }
        int worst = Math.max(Math.max(counts[0], counts[1]), Math.max(counts[2], counts[3]));
        Check.is("the mark that is there most", x.lookWorst(0), worst);
        x.carry(0, 0);
        x.look(0);
        Check.is("one", x.lookWorst(0), 1);
        Check.is("nothing is changed", x.possible(0), 1L);
    }

    /** The least and the greatest that a LOOK can show: 0, and MARK 3 with all four SIDES BLOCKED. */
    private static void theLeastAndTheGreatestLook() {
        Stepscout x = new Stepscout();
        x.robot(9, -1);
        x.carry(0, 36);
        Check.is("the least", x.look(0), 0);
        for (int place : new int[] {55, 62, 46, 53}) {
            x.wall(place, true);
        }
        x.ground(63, false, 3);
        x.ground(54, false, 3);
        x.carry(0, 63);
        Check.is("36 inside less two walls, and four beside them", x.lookWorst(0), 30);
        Check.is("the greatest", x.look(0), 3 * 16 + 15);
        Check.is("two are like that", x.possible(0), SIGN | 1L << 54);
        Check.is("the worst of it", x.lookWorst(0), 2);
        Check.is("no way home", x.ofRobot(0, 10), -1);
    }

    /** "A ROBOT that is CARRIED to a PLACE feels that": also to where it is, or to the DOCK. */
    private static void carriedToWhereItIs() {
        Stepscout x = new Stepscout();
        x.robot(9, -1);
        x.robot(9, -1);
        Check.is("where it was", x.carry(0, 0), 0);
        Check.is("all is possible", x.possible(0), -1L);
        Check.is("not for the other", x.possible(1), 1L);
        Check.is("the sum is possible", x.ofRobot(0, 9), 1);
        Check.is("it is at the dock", x.yard(12), 0);
        Check.is("no step", x.ofRobot(0, 5), 0);
        Check.is("where it was", x.carry(0, 63), 0);
        Check.is("away", x.yard(12), 1);
    }

    /** "(0, if from none of its POSSIBLE PLACES that can be; BATTERY and DARK are not asked)". */
    private static void whatCannotBe() {
        Stepscout x = new Stepscout();
        x.robot(9, -1);
        Check.is("it would bump above", x.after(0, UP, false), 0);
        Check.is("it would not bump below", x.after(0, DOWN, true), 0);
        x.wall(8, true);
        Check.is("a wall", x.after(0, DOWN, true), 1);
        Check.is("a wall", x.after(0, DOWN, false), 0);
        Check.is("nothing is changed", x.ofRobot(0, 6), 0);
        Check.is("nothing is changed", x.ofRobot(0, 1), 100);
        Check.is("nothing is changed", x.yard(0), 0);
    }

    public static void main(String[] arguments) {
        aSlipInEachBlock();
        theBlocksEnds();
        noSlipElsewhere();
        slipsAreForgotten();
        placesOfSlipsAreForgotten();
        changesForEachRobot();
        theSumStaysAtTheDock();
        thePlace63();
        theYardsEnds();
        looksTakeAway();
        looksBringNothingBack();
        theWorstLook();
        theLeastAndTheGreatestLook();
        carriedToWhereItIs();
        whatCannotBe();
        Check.end("DoubtEdgesTest");
    }
}
