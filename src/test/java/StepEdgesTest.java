/** The edges that section 2 and the promises 6 to 14 name: EVERY and SLIP, BLOCKS, BATTERY, the DARK. */
public final class StepEdgesTest {
    private static final Class<IllegalStateException> STATE = IllegalStateException.class;
    private static final int UP = 0;
    private static final int RIGHT = 1;
    private static final int DOWN = 2;
    private static final int LEFT = 3;

    private static final int BATTERY = 1;
    private static final int COLUMN = 2;
    private static final int ROW = 3;
    private static final int STEPS = 5;
    private static final int BUMPS = 6;
    private static final int SLIPS = 7;

    private static Stepscout onSand(int every, int slip) {
        Stepscout x = new Stepscout();
        for (int place = 0; place < 64; place++) {
            x.ground(place, true, 0);
        }
        x.robot(every, slip);
        return x;
    }

    /** 'times' STEPS that bump, in the corner 0. */
    private static void bump(Stepscout x, int robot, int times) {
        for (int i = 0; i < times; i++) {
            Check.is("a bump", x.step(robot, UP), true);
        }
    }

    private static void restTill(Stepscout x, int minute) {
        while (x.yard(0) < minute) {
            x.rest(Math.min(200, minute - x.yard(0)));
        }
    }

    /** "an EVERY (2 to 9) and a SLIP (NONE, or 0 to EVERY less 1)": it slips then, and never else. */
    private static void eachEveryAndSlip() {
        for (int every = 2; every <= 9; every++) {
            for (int slip = -1; slip < every; slip++) {
                Stepscout x = onSand(every, slip);
                int column = 0;
                int slips = 0;
                for (int step = 0; step < 2 * every + 2; step++) {
                    int side = column < 4 ? RIGHT : LEFT;
                    boolean isSlip = step % every == slip;
                    Check.is("a slip is not felt", x.step(0, side), false);
                    slips += isSlip ? 1 : 0;
                    column += isSlip ? 0 : side == RIGHT ? 1 : -1;
                    String what = "every " + every + ", slip " + slip + ", step " + step;
                    Check.is(what + ": place", x.ofRobot(0, 0), column);
                    Check.is(what + ": slips", x.ofRobot(0, SLIPS), slips);
                    Check.is(what + ": it is possible", x.possible(0) >> column & 1, 1L);
                }
                Check.is("bumps", x.ofRobot(0, BUMPS), 0);
            }
        }
    }

    /** "ROBOTS: at most 3, numbered from 0, each in a PLACE (at first at the DOCK)". */
    private static void threeRobotsAtTheDock() {
        Stepscout x = new Stepscout();
        x.dock(63);
        for (int robot = 0; robot < 3; robot++) {
            Check.is("number", x.robot(2 + robot, robot), robot);
            Check.is("place", x.ofRobot(robot, 0), 63);
            Check.is("battery", x.ofRobot(robot, BATTERY), 100);
            Check.is("column", x.ofRobot(robot, COLUMN), 7);
            Check.is("row", x.ofRobot(robot, ROW), 7);
            Check.is("possible", x.possible(robot), Long.MIN_VALUE);
            Check.is("robots there", x.ofPlace(63, 5), robot + 1);
            Check.is("robots", x.yard(4), robot + 1);
        }
        x.step(1, LEFT);
        Check.is("only the second one went", x.ofPlace(63, 5), 2);
        Check.is("battery of the first", x.ofRobot(0, BATTERY), 100);
        Check.is("battery of the second", x.ofRobot(1, BATTERY), 99);
        Check.is("possible of the third", x.possible(2), Long.MIN_VALUE);
    }

    /** "STEPS are counted from 0 on .. (ever, also those that bump or slip)". */
    private static void bumpsAndSlipsAreCounted() {
        Stepscout x = onSand(3, 2);
        bump(x, 0, 2);
        x.step(0, RIGHT);
        Check.is("the third one slips", x.ofRobot(0, SLIPS), 1);
        Check.is("steps", x.ofRobot(0, STEPS), 3);
        x.step(0, RIGHT);
        bump(x, 0, 1);
        x.step(0, RIGHT);
        Check.is("the sixth one slips", x.ofRobot(0, SLIPS), 2);
        Check.is("place", x.ofRobot(0, 0), 1);
        Check.is("steps", x.ofRobot(0, STEPS), 6);
        Check.is("bumps", x.ofRobot(0, BUMPS), 3);
    }

    /** "and has not to bump": no slip then, and none later in that BLOCK. */
    private static void aBumpIsNoSlip() {
        Stepscout x = onSand(4, 1);
        x.step(0, RIGHT);
        Check.is("bump in the step that would slip", x.step(0, UP), true);
        Check.is("no slip", x.ofRobot(0, SLIPS), 0);
        for (int i = 0; i < 3; i++) {
            x.step(0, RIGHT);
        }
        Check.is("no slip till the next one", x.ofRobot(0, SLIPS), 0);
        Check.is("place", x.ofRobot(0, 0), 4);
        x.step(0, RIGHT);
        Check.is("the next one", x.ofRobot(0, SLIPS), 1);
        Check.is("place", x.ofRobot(0, 0), 4);
    }

    /** "if it is on SAND then": where it comes from counts, not where it goes. */
    private static void sandUnderTheWheels() {
        Stepscout x = new Stepscout();
        x.ground(1, true, 0);
        x.robot(2, 0);
        x.step(0, RIGHT);
        Check.is("onto sand", x.ofRobot(0, 0), 1);
        Check.is("a unit", x.ofRobot(0, BATTERY), 99);
        bump(x, 0, 1);
        Check.is("two for a bump on sand", x.ofRobot(0, BATTERY), 97);
        x.step(0, RIGHT);
        Check.is("from sand", x.ofRobot(0, 0), 1);
        Check.is("slips", x.ofRobot(0, SLIPS), 1);
        Check.is("two for a slip", x.ofRobot(0, BATTERY), 95);
        x.step(0, RIGHT);
        Check.is("away", x.ofRobot(0, 0), 2);
        Check.is("two from sand", x.ofRobot(0, BATTERY), 93);
        Check.is("minutes", x.yard(0), 4);
        x.step(0, UP);
        Check.is("a unit for a bump", x.ofRobot(0, BATTERY), 92);
        Check.is("a minute for a bump", x.yard(0), 5);
    }

    /** BLOCKS go by STEPS alone: nothing else begins a new one. */
    private static void nothingElseBeginsABlock() {
        Stepscout x = onSand(5, 4);
        x.step(0, RIGHT);
        x.step(0, LEFT);
        x.charge(0);
        x.carry(0, 0);
        x.rest(7);
        x.look(0);
        x.step(0, RIGHT);
        x.wall(63, true);
        x.ground(62, false, 0);
        x.dock(0);
        x.step(0, LEFT);
        Check.is("none yet", x.ofRobot(0, SLIPS), 0);
        x.step(0, RIGHT);
        Check.is("the fifth one slips", x.ofRobot(0, SLIPS), 1);
        Check.is("steps", x.ofRobot(0, STEPS), 5);
    }

    /** "a unit of BATTERY, on SAND 2 units (as much as there is)"; "Who has no BATTERY cannot go". */
    private static void theLastUnits() {
        Stepscout x = new Stepscout();
        x.robot(2, -1);
        x.robot(2, -1);
        x.bin(1, 9, 0);
        bump(x, 0, 99);
        Check.is("a unit is left", x.ofRobot(0, BATTERY), 1);
        Check.is("it goes", x.step(0, RIGHT), false);
        Check.is("place", x.ofRobot(0, 0), 1);
        Check.is("none is left", x.ofRobot(0, BATTERY), 0);
        Check.fails("a step without it", STATE, x, () -> x.step(0, LEFT));
        Check.is("the other one goes", x.step(1, DOWN), false);
        Check.is("it looks", x.look(0), 1);
        Check.is("it takes", x.take(0), 5);
        Check.is("a way", x.home(0), false);
        Check.is("no step", x.ofRobot(0, STEPS), 100);
        Check.is("must turn", x.ofRobot(0, 11), 1);
        x.rest(200);
        Check.is("rest is no battery", x.ofRobot(0, BATTERY), 0);
        Check.is("it is carried", x.carry(0, 0), 1);
        Check.is("it brings", x.bring(0), 5);
        Check.is("battery ahead", x.charge(0), 0);
        Check.is("battery", x.ofRobot(0, BATTERY), 100);
        Check.is("battery ahead", x.charge(0), 100);
        Check.is("not more than that", x.ofRobot(0, BATTERY), 100);
        Check.is("it goes", x.step(0, RIGHT), false);
        Check.is("battery", x.ofRobot(0, BATTERY), 99);
    }

    private static void theLastUnitsOnSand() {
        for (int left = 1; left <= 3; left++) {
            Stepscout x = new Stepscout();
            x.robot(2, -1);
            x.robot(2, -1);
            bump(x, 0, 100 - left);
            x.ground(0, true, 0);
            Check.is("it goes with " + left, x.step(0, DOWN), false);
            Check.is("place", x.ofRobot(0, 0), 8);
            Check.is("battery of " + left, x.ofRobot(0, BATTERY), left == 3 ? 1 : 0);
            bump(x, 1, 1);
            Check.is("a bump on sand", x.ofRobot(1, BATTERY), 98);
        }
        Stepscout y = new Stepscout();
        y.robot(2, 1);
        bump(y, 0, 99);
        y.ground(0, true, 0);
        Check.is("a slip with the last unit", y.step(0, DOWN), false);
        Check.is("slips", y.ofRobot(0, SLIPS), 1);
        Check.is("place", y.ofRobot(0, 0), 0);
        Check.is("battery", y.ofRobot(0, BATTERY), 0);
        Check.is("row", y.ofRobot(0, ROW), 1);
    }

    /** "DARK begins at MINUTE 720"; "in the DARK nobody goes". */
    private static void theDarkBegins() {
        Stepscout x = new Stepscout();
        x.robot(2, -1);
        x.robot(2, -1);
        x.bin(0, 50, 0);
        restTill(x, 718);
        x.step(0, RIGHT);
        Check.is("minute", x.yard(0), 719);
        Check.is("not dark yet", x.yard(11), 0);
        Check.is("the last one goes", x.step(1, RIGHT), false);
        Check.is("minute", x.yard(0), 720);
        Check.is("dark", x.yard(11), 1);
        Check.fails("nobody goes", STATE, x, () -> x.step(0, LEFT));
        Check.fails("nor the other", STATE, x, () -> x.step(1, LEFT));
        Check.fails("no rest", STATE, x, () -> x.rest(1));
        Check.is("a way", x.home(0), false);
        Check.is("no step", x.ofRobot(0, STEPS), 1);
        Check.is("minute", x.yard(0), 720);
        Check.is("it is out", x.yard(12), 2);
        Check.is("a look", x.look(0), 1);
        Check.is("carried", x.carry(0, 0), 1);
        Check.is("a look", x.look(0), 9);
        Check.is("take", x.take(0), 5);
        Check.is("bring", x.bring(0), 5);
        Check.is("charge", x.charge(0), 99);
        Check.is("home is where it is", x.home(0), true);
        Check.is("a robot comes", x.robot(2, -1), 2);
        Check.is("a bin", x.bin(1, 1, 1), 1);
        Check.is("a wall", x.wall(63, true), 1);
        Check.is("ground", x.ground(62, true, 1), 0);
        Check.is("dock", x.dock(9), 0);
        Check.is("what would be, in the dark", x.after(0, RIGHT, true), 8);
    }

    private static void theDarkBeginsByRest() {
        Stepscout x = new Stepscout();
        restTill(x, 719);
        Check.is("not dark yet", x.yard(11), 0);
        Check.is("a minute", x.rest(1), 720);
        Check.is("dark", x.yard(11), 1);
        Stepscout y = new Stepscout();
        restTill(y, 719);
        Check.is("all of them go by", y.rest(200), 919);
        Check.is("dark", y.yard(11), 1);
        Check.fails("no rest", STATE, y, () -> y.rest(200));
    }

    /** "MINUTES 1 to 200". */
    private static void theShortestAndTheLongestRest() {
        Stepscout x = new Stepscout();
        Check.is("one", x.rest(1), 1);
        Check.is("200", x.rest(200), 201);
        Check.is("minute", x.yard(0), 201);
    }

    /** "as it is charged": only at the DOCK, also if another one stands there or the DOCK has moved. */
    private static void chargingNeedsTheDock() {
        Stepscout x = new Stepscout();
        x.robot(3, -1);
        x.robot(3, -1);
        x.step(0, RIGHT);
        Check.fails("charge beside the dock", STATE, x, () -> x.charge(0));
        Check.fails("bring beside the dock", STATE, x, () -> x.bring(0));
        Check.is("charge of the other", x.charge(1), 100);
        x.dock(1);
        Check.fails("the other one, now", STATE, x, () -> x.charge(1));
        Check.is("the dock came to it", x.charge(0), 99);
        Check.is("column", x.ofRobot(0, COLUMN), 1);
        Check.is("brings nothing", x.bring(0), 0);
        x.step(0, LEFT);
        x.dock(8);
        Check.is("the sum stays", x.ofRobot(0, COLUMN), 0);
        x.carry(0, 8);
        Check.is("the sum stays", x.ofRobot(0, ROW), 0);
        x.charge(0);
        Check.is("row", x.ofRobot(0, ROW), 1);
        Check.is("column", x.ofRobot(0, COLUMN), 0);
    }

    /** "till it BUMPS": also in the first STEP; what follows on the WAY is not walked. */
    private static void homeEndsWithABump() {
        Stepscout x = new Stepscout();
        x.robot(2, -1);
        x.step(0, DOWN);
        x.step(0, DOWN);
        x.step(0, RIGHT);
        Check.is("way", x.way(0), "uul");
        x.carry(0, 1);
        Check.is("bumps at once", x.home(0), false);
        Check.is("one step", x.ofRobot(0, STEPS), 4);
        Check.is("bumps", x.ofRobot(0, BUMPS), 1);
        Check.is("place", x.ofRobot(0, 0), 1);
        Check.is("the sum stays", x.way(0), "uul");
        x.carry(0, 10);
        Check.is("bumps in the second one", x.home(0), false);
        Check.is("two steps", x.ofRobot(0, STEPS), 6);
        Check.is("place", x.ofRobot(0, 0), 2);
        Check.is("one of them counts", x.way(0), "ul");
        x.carry(0, 9);
        Check.is("to the end", x.home(0), true);
        Check.is("two steps", x.ofRobot(0, STEPS), 8);
        Check.is("an empty way", x.way(0), "");
        Check.is("nothing to walk", x.home(0), true);
        Check.is("no step", x.ofRobot(0, STEPS), 8);
    }

    /** ".. cannot go": the BATTERY or the light ends in the midst of the WAY. */
    private static void homeEndsInTheMidst() {
        for (int left = 0; left <= 4; left++) {
            Stepscout x = new Stepscout();
            x.robot(2, -1);
            bump(x, 0, 97 - left);
            for (int i = 0; i < 3; i++) {
                x.step(0, RIGHT);
            }
            Check.is("home with " + left, x.home(0), left >= 3);
            Check.is("steps", x.ofRobot(0, STEPS), 100 - left + Math.min(3, left));
            Check.is("place", x.ofRobot(0, 0), Math.max(0, 3 - left));
            Check.is("battery", x.ofRobot(0, BATTERY), Math.max(0, left - 3));

            Stepscout y = new Stepscout();
            y.robot(2, -1);
            for (int i = 0; i < 3; i++) {
                y.step(0, DOWN);
            }
            restTill(y, 720 - left);
            Check.is("home by light of " + left, y.home(0), left >= 3);
            Check.is("steps", y.ofRobot(0, STEPS), 3 + Math.min(3, left));
            Check.is("place", y.ofRobot(0, 0), 8 * Math.max(0, 3 - left));
            Check.is("minute", y.yard(0), Math.min(720, 720 - left + 3));
        }
    }

    /** "the WAY (that was found at first)": a slip does not make it longer, and the sum ends at the DOCK. */
    private static void homeKeepsTheFirstWay() {
        Stepscout x = onSand(2, 0);
        x.carry(0, 4);
        for (int i = 0; i < 4; i++) {
            x.step(0, RIGHT);
        }
        Check.is("two slips", x.ofRobot(0, 0), 6);
        Check.is("column", x.ofRobot(0, COLUMN), 4);
        Check.is("not home", x.home(0), false);
        Check.is("four steps more, two slips", x.ofRobot(0, 0), 4);
        Check.is("steps", x.ofRobot(0, STEPS), 8);
        Check.is("the sum is home", x.ofRobot(0, COLUMN), 0);
        Check.is("way", x.way(0), "");
        Check.is("minutes", x.yard(0), 8);
        Check.is("battery", x.ofRobot(0, BATTERY), 100 - 16);
    }

    public static void main(String[] arguments) {
        eachEveryAndSlip();
        threeRobotsAtTheDock();
        bumpsAndSlipsAreCounted();
        aBumpIsNoSlip();
        sandUnderTheWheels();
        nothingElseBeginsABlock();
        theLastUnits();
        theLastUnitsOnSand();
        theDarkBegins();
        theDarkBeginsByRest();
        theShortestAndTheLongestRest();
        chargingNeedsTheDock();
        homeEndsWithABump();
        homeEndsInTheMidst();
        homeKeepsTheFirstWay();
        Check.end("StepEdgesTest");
    }
}
