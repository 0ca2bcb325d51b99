/** Promises 6 to 14: robot, step, look, carry, charge, take, bring, home, rest. */
public final class RobotTest {
    private static final Class<IndexOutOfBoundsException> INDEX = IndexOutOfBoundsException.class;
    private static final Class<IllegalArgumentException> ARGUMENT = IllegalArgumentException.class;
    private static final Class<IllegalStateException> STATE = IllegalStateException.class;
    private static final int[] NO_ROBOTS = {-1, 1, 3, Integer.MIN_VALUE, Integer.MAX_VALUE};
    private static final int UP = 0;
    private static final int RIGHT = 1;
    private static final int DOWN = 2;
    private static final int LEFT = 3;

    private static void robotsCome() {
        Stepscout x = new Stepscout();
        x.dock(20);
        Check.is("first robot", x.robot(2, -1), 0);
        Check.is("second robot", x.robot(9, 8), 1);
        Check.is("robots", x.yard(4), 2);
        x.dock(22);
        Check.is("third robot", x.robot(5, 0), 2);
        int[] due = {20, 100, 4, 2, 0, 0, 0, 0};
        for (int what = 0; what < due.length; what++) {
            Check.is("ofRobot(1, " + what + ")", x.ofRobot(1, what), due[what]);
        }
        Check.is("all is possible", x.possible(1), -1L);
        Check.is("the dock alone", x.possible(2), 1L << 22);
        Check.is("place", x.ofRobot(2, 0), 22);
        Check.is("column", x.ofRobot(2, 2), 6);
        Check.is("row", x.ofRobot(2, 3), 2);
        Check.is("robots", x.yard(4), 3);
        Check.is("robots that are not at the dock", x.yard(12), 2);
    }

    private static void robotsAreRefused() {
        Stepscout x = new Stepscout();
        x.robot(2, 1);
        for (int every : new int[] {1, 10, 0, -2, Integer.MIN_VALUE, Integer.MAX_VALUE}) {
            Check.fails("every " + every, ARGUMENT, x, () -> x.robot(every, -1));
            Check.fails("every and slip " + every, ARGUMENT, x, () -> x.robot(every, 0));
        }
        for (int slip : new int[] {-2, 5, 6, Integer.MIN_VALUE, Integer.MAX_VALUE}) {
            Check.fails("slip " + slip, ARGUMENT, x, () -> x.robot(5, slip));
        }
        x.robot(5, 4);
        x.robot(9, -1);
        Check.fails("a fourth robot", STATE, x, () -> x.robot(5, 4));
        Check.fails("a fourth robot, wrong too", ARGUMENT, x, () -> x.robot(5, 5));
    }

    private static void told(String what, Stepscout x, int place, int battery, int column, int row) {
        Check.is(what + ": place", x.ofRobot(0, 0), place);
        Check.is(what + ": battery", x.ofRobot(0, 1), battery);
        Check.is(what + ": column", x.ofRobot(0, 2), column);
        Check.is(what + ": row", x.ofRobot(0, 3), row);
    }

    private static void stepsGoAndBump() {
        Stepscout x = new Stepscout();
        x.robot(3, 0);
        x.robot(3, 0);
        x.wall(9, true);
        Check.is("right", x.step(0, RIGHT), false);
        told("right", x, 1, 99, 1, 0);
        Check.is("down onto a wall", x.step(0, DOWN), true);
        told("bump", x, 1, 98, 1, 0);
        Check.is("up out of the yard", x.step(0, UP), true);
        told("bump", x, 1, 97, 1, 0);
        Check.is("left, where a robot is", x.step(0, LEFT), false);
        told("left", x, 0, 96, 0, 0);
        Check.is("left out of the yard", x.step(0, LEFT), true);
        Check.is("down", x.step(0, DOWN), false);
        told("down", x, 8, 94, 0, 1);
        Check.is("up", x.step(0, UP), false);
        told("up", x, 0, 93, 0, 0);
        Check.is("steps", x.ofRobot(0, 5), 7);
        Check.is("bumps", x.ofRobot(0, 6), 3);
        Check.is("slips", x.ofRobot(0, 7), 0);
        Check.is("minute", x.yard(0), 7);
        Check.is("steps of the other", x.ofRobot(1, 5), 0);
        Check.is("battery of the other", x.ofRobot(1, 1), 100);
        x.dock(63);
        x.robot(2, -1);
        Check.is("down out of the yard", x.step(2, DOWN), true);
        Check.is("right out of the yard", x.step(2, RIGHT), true);
    }

    private static void stepsSlipOnSand() {
        Stepscout x = new Stepscout();
        for (int place = 0; place < 8; place++) {
            x.ground(place, true, 0);
        }
        x.robot(3, 1);
        Check.is("step 0", x.step(0, RIGHT), false);
        told("step 0", x, 1, 98, 1, 0);
        Check.is("step 1 slips", x.step(0, RIGHT), false);
        told("step 1", x, 1, 96, 2, 0);
        x.step(0, RIGHT);
        told("step 2", x, 2, 94, 3, 0);
        x.step(0, RIGHT);
        told("step 3", x, 3, 92, 4, 0);
        Check.is("step 4 bumps and does not slip", x.step(0, UP), true);
        told("step 4", x, 3, 90, 4, 0);
        Check.is("slips", x.ofRobot(0, 7), 1);
        x.step(0, DOWN);
        told("step 5", x, 11, 88, 4, 1);
        x.step(0, DOWN);
        x.step(0, UP);
        told("step 7 is not on sand", x, 11, 86, 4, 1);
        x.step(0, UP);
        Check.is("step 9", x.step(0, LEFT), false);
        told("step 9", x, 2, 83, 3, 0);
        x.carry(0, 0);
        x.charge(0);
        x.step(0, RIGHT);
        Check.is("step 10 slips: steps go on behind charging", x.ofRobot(0, 0), 0);
        told("step 10", x, 0, 98, 1, 0);
        Check.is("slips", x.ofRobot(0, 7), 2);
        Check.is("steps", x.ofRobot(0, 5), 11);
        Check.is("bumps", x.ofRobot(0, 6), 1);
    }

    private static void doubtGrowsBySand() {
        Stepscout x = new Stepscout();
        for (int place = 0; place < 8; place++) {
            x.ground(place, true, 0);
        }
        x.robot(2, -1);
        x.step(0, RIGHT);
        Check.is("a slip or none", x.possible(0), 0b11L);
        x.step(0, RIGHT);
        Check.is("one slip in the block, or none", x.possible(0), 0b110L);
        x.step(0, RIGHT);
        Check.is("a new block", x.possible(0), 0b1110L);
        Check.is("the sum is possible", x.ofRobot(0, 9), 1);
        x.step(0, LEFT);
        Check.is("back", x.possible(0), 0b1111L);
        x.step(0, LEFT);
        Check.is("who was at 0 would have bumped", x.possible(0), 0b1111L);
        x.step(0, LEFT);
        Check.is("a step further", x.possible(0), 0b0111L);
        x.step(0, LEFT);
        Check.is("at 0 by now", x.ofRobot(0, 6), 1);
        Check.is("a bump tells", x.possible(0), 0b0001L);
    }

    private static void bumpsKeepSlipsInMind() {
        Stepscout x = new Stepscout();
        x.ground(0, true, 0);
        x.ground(1, true, 0);
        x.ground(8, true, 0);
        x.robot(3, 2);
        x.step(0, RIGHT);
        Check.is("bump", x.step(0, UP), true);
        Check.is("both have bumped", x.possible(0), 0b11L);
        Check.is("only 1 can slip", x.after(0, RIGHT, false), 2);
        Check.is("slips at the last of the block", x.step(0, DOWN), false);
        Check.is("slips", x.ofRobot(0, 7), 1);
        Check.is("0 had slipped, 1 had not", x.possible(0), 1L << 8 | 1L << 9 | 1L << 1);
    }

    private static void stepsAreRefused() {
        Stepscout x = new Stepscout();
        x.robot(3, 0);
        for (int robot : NO_ROBOTS) {
            Check.fails("step of " + robot, INDEX, x, () -> x.step(robot, 0));
            Check.fails("step of " + robot + " to 4", INDEX, x, () -> x.step(robot, 4));
        }
        for (int side : new int[] {-1, 4, Integer.MIN_VALUE, Integer.MAX_VALUE}) {
            Check.fails("side " + side, ARGUMENT, x, () -> x.step(0, side));
        }
        x.ground(1, true, 0);
        for (int i = 0; i < 99; i++) {
            x.step(0, i % 2 == 0 ? DOWN : UP);
        }
        x.step(0, UP);
        Check.is("no battery", x.ofRobot(0, 1), 0);
        Check.fails("step without battery", STATE, x, () -> x.step(0, DOWN));
        Check.fails("side 4 without battery", ARGUMENT, x, () -> x.step(0, 4));
        x.charge(0);
        for (int i = 0; i < 97; i++) {
            x.step(0, UP);
        }
        x.step(0, DOWN);
        x.step(0, UP);
        Check.is("a unit is left", x.ofRobot(0, 1), 1);
        x.carry(0, 1);
        Check.is("sand takes what there is", x.step(0, UP), true);
        Check.is("no battery", x.ofRobot(0, 1), 0);
        x.carry(0, 0);
        x.charge(0);
        for (int i = 0; i < 3; i++) {
            x.rest(173);
        }
        Check.is("the last minute", x.yard(0), 719);
        x.step(0, UP);
        Check.is("dark", x.yard(11), 1);
        Check.fails("step in the dark", STATE, x, () -> x.step(0, DOWN));
        Check.fails("side 4 in the dark", ARGUMENT, x, () -> x.step(0, 4));
    }

    private static void looksShow() {
        Stepscout x = new Stepscout();
        x.robot(3, 0);
        Check.is("corner", x.look(0), 9);
        int[][] looks = {{7, 3}, {56, 12}, {63, 6}, {3, 1}, {24, 8}, {31, 2}, {59, 4}, {27, 0}};
        for (int[] look : looks) {
            x.carry(0, look[0]);
            Check.is("look at " + look[0], x.look(0), look[1]);
        }
        Check.is("in the open", x.ofRobot(0, 8), 36);
        x.wall(26, true);
        x.wall(28, true);
        x.ground(27, true, 3);
        Check.is("mark and walls", x.look(0), 3 * 16 + 2 + 8);
        Check.is("none other is like that", x.possible(0), 1L << 27);
        x.ground(30, false, 1);
        x.ground(33, false, 1);
        x.carry(0, 33);
        Check.is("a mark", x.look(0), 16);
        Check.is("two are like that", x.possible(0), 1L << 30 | 1L << 33);
        Check.is("no minute", x.yard(0), 0);
        Check.is("no battery", x.ofRobot(0, 1), 100);
        for (int robot : NO_ROBOTS) {
            Check.fails("look of " + robot, INDEX, x, () -> x.look(robot));
        }
        for (int i = 0; i < 4; i++) {
            x.rest(180);
        }
        Check.is("a look in the dark", x.look(0), 16);
    }

    /** Of two PLACES the one with the slip is taken away: the other one can slip yet. */
    private static void looksKeepSlipsInMind() {
        Stepscout x = new Stepscout();
        for (int place = 0; place < 3; place++) {
            x.ground(place, true, place);
        }
        x.robot(9, 0);
        x.robot(9, 1);
        x.step(0, RIGHT);
        Check.is("at 0", x.look(0), 9);
        Check.is("slipped", x.possible(0), 1L);
        Check.is("no second slip", x.after(0, RIGHT, false), 1);
        x.step(1, RIGHT);
        Check.is("at 1", x.look(1), 17);
        Check.is("not slipped", x.possible(1), 2L);
        Check.is("a slip yet", x.after(1, RIGHT, false), 2);
    }

    private static void robotsAreCarried() {
        Stepscout x = new Stepscout();
        x.robot(9, 0);
        x.wall(63, true);
        x.ground(0, true, 0);
        Check.is("where it was", x.carry(0, 62), 0);
        Check.is("place", x.ofRobot(0, 0), 62);
        Check.is("all is possible", x.possible(0), ~(1L << 63));
        Check.is("the sum stays", x.ofRobot(0, 2) + x.ofRobot(0, 3), 0);
        x.look(0);
        Check.is("where it was", x.carry(0, 62), 62);
        Check.is("all is possible, at the same place", x.possible(0), ~(1L << 63));
        Check.is("where it was", x.carry(0, 0), 62);
        Check.is("all is possible, at the dock", x.possible(0), ~(1L << 63));
        x.charge(0);
        x.step(0, RIGHT);
        Check.is("slipped", x.ofRobot(0, 7), 1);
        x.carry(0, 0);
        x.look(0);
        Check.is("known by its corner", x.possible(0), 1L);
        Check.is("carry() forgets the slip", x.after(0, RIGHT, false), 2);
        Check.is("no minute", x.yard(0), 1);
        Check.is("no battery", x.ofRobot(0, 1), 98);
    }

    private static void carryingIsRefused() {
        Stepscout x = new Stepscout();
        x.robot(2, 0);
        x.wall(63, true);
        for (int robot : NO_ROBOTS) {
            Check.fails("carry " + robot, INDEX, x, () -> x.carry(robot, 0));
            Check.fails("carry " + robot + " onto a wall", INDEX, x, () -> x.carry(robot, 63));
        }
        for (int place : new int[] {-1, 64, Integer.MIN_VALUE, Integer.MAX_VALUE}) {
            Check.fails("carry to " + place, INDEX, x, () -> x.carry(0, place));
        }
        Check.fails("carry onto a wall", STATE, x, () -> x.carry(0, 63));
    }

    private static void robotsAreCharged() {
        Stepscout x = new Stepscout();
        x.ground(9, true, 0);
        x.dock(9);
        x.robot(9, 0);
        x.step(0, DOWN);
        Check.is("slipped", x.ofRobot(0, 7), 1);
        Check.is("it may be elsewhere", x.ofRobot(0, 8), 2);
        Check.is("battery ahead", x.charge(0), 98);
        Check.is("battery", x.ofRobot(0, 1), 100);
        Check.is("column", x.ofRobot(0, 2), 1);
        Check.is("row", x.ofRobot(0, 3), 1);
        Check.is("the dock alone", x.possible(0), 1L << 9);
        Check.is("charge() forgets the slip", x.after(0, DOWN, false), 2);
        Check.is("no minute", x.yard(0), 1);
        for (int robot : NO_ROBOTS) {
            Check.fails("charge " + robot, INDEX, x, () -> x.charge(robot));
        }
        x.step(0, DOWN);
        Check.fails("charge away from the dock", STATE, x, () -> x.charge(0));
        x.step(0, UP);
        for (int i = 0; i < 4; i++) {
            x.rest(180);
        }
        Check.is("charge in the dark", x.charge(0), 97);
    }

    private static void chargingEndsAllDoubt() {
        Stepscout x = new Stepscout();
        x.ground(8, true, 0);
        x.robot(9, -1);
        x.step(0, DOWN);
        x.step(0, UP);
        Check.is("slipped at 8, or not", x.possible(0), 1L | 1L << 8);
        x.charge(0);
        Check.is("the dock alone", x.possible(0), 1L);
        x.step(0, DOWN);
        x.step(0, UP);
        x.wall(63, true);
        Check.is("the dock alone", x.possible(0), 1L);
        x.step(0, DOWN);
        x.step(0, UP);
        x.wall(63, false);
        x.carry(0, 9);
        x.wall(8, true);
        Check.is("none is possible in a wall", x.possible(0), ~(1L << 8));
    }

    private static void theLastLoadIsTaken() {
        Stepscout x = new Stepscout();
        x.robot(2, 0);
        x.bin(0, 1, 0);
        x.bin(0, 6, 0);
        Check.is("the last one", x.take(0), 1);
        Check.is("of the next bin", x.take(0), 4);
        x.bring(0);
        Check.is("the rest", x.take(0), 2);
        Check.fails("all are taken", STATE, x, () -> x.take(0));
    }

    private static void loadsAreTakenAndBrought() {
        Stepscout x = new Stepscout();
        x.robot(2, 0);
        x.robot(2, 0);
        x.bin(1, 0, 5);
        x.bin(1, 3, 0);
        x.bin(1, 20, 0);
        Check.fails("no bin", STATE, x, () -> x.take(0));
        x.carry(0, 1);
        Check.is("of the smallest with loads, of that alone", x.take(0), 3);
        Check.is("carried", x.ofRobot(0, 4), 3);
        Check.is("the first stays", x.ofBin(0, 1), 0);
        Check.is("the second is empty", x.ofBin(1, 1), 0);
        Check.is("till 5", x.take(0), 2);
        Check.is("the third", x.ofBin(2, 1), 18);
        Check.is("carried", x.ofRobot(0, 4), 5);
        Check.is("no more", x.take(0), 0);
        x.rest(10);
        Check.is("the first has loads again", x.ofBin(0, 1), 5);
        x.carry(1, 1);
        Check.is("of the first", x.take(1), 5);
        Check.is("on robots", x.yard(7), 10);
        Check.is("in bins", x.yard(6), 18);
        Check.fails("bring away from the dock", STATE, x, () -> x.bring(0));
        x.carry(0, 0);
        Check.is("brought", x.bring(0), 5);
        Check.is("nothing more", x.bring(0), 0);
        Check.is("carried", x.ofRobot(0, 4), 0);
        Check.is("at home", x.yard(8), 5);
        Check.is("on robots", x.yard(7), 5);
        x.carry(1, 0);
        x.bring(1);
        Check.is("at home", x.yard(8), 10);
        Check.is("ever", x.yard(10), 28);
        Check.fails("nothing there", STATE, x, () -> x.take(0));
        for (int robot : new int[] {-1, 2, Integer.MIN_VALUE, Integer.MAX_VALUE}) {
            Check.fails("take " + robot, INDEX, x, () -> x.take(robot));
            Check.fails("bring " + robot, INDEX, x, () -> x.bring(robot));
        }
        x.carry(0, 1);
        for (int i = 0; i < 4; i++) {
            x.take(0);
            x.carry(0, 0);
            x.bring(0);
            x.carry(0, 1);
        }
        Check.fails("bins without loads", STATE, x, () -> x.take(0));
        Check.is("sound", x.isSound(), true);
    }

    private static void robotsWalkHome() {
        Stepscout x = new Stepscout();
        x.robot(2, -1);
        Check.is("already there", x.home(0), true);
        Check.is("no step", x.ofRobot(0, 5), 0);
        x.step(0, RIGHT);
        x.step(0, DOWN);
        x.step(0, DOWN);
        Check.is("home", x.home(0), true);
        Check.is("steps", x.ofRobot(0, 5), 6);
        Check.is("battery", x.ofRobot(0, 1), 94);
        Check.is("minute", x.yard(0), 6);
        x.carry(0, 63);
        Check.is("an empty way elsewhere", x.home(0), false);
        Check.is("no step", x.ofRobot(0, 5), 6);
        x.carry(0, 1);
        x.step(0, DOWN);
        x.step(0, DOWN);
        Check.is("column", x.ofRobot(0, 2), 0);
        Check.is("by the sum, one column off", x.home(0), false);
        told("two up", x, 1, 92 - 2, 0, 0);
        x.carry(0, 1);
        x.step(0, RIGHT);
        x.step(0, DOWN);
        x.step(0, DOWN);
        x.carry(0, 9);
        Check.is("bumps on the way", x.home(0), false);
        told("stopped by the bump", x, 1, 85, 1, 1);
        Check.is("bumps", x.ofRobot(0, 6), 1);
        x.step(0, RIGHT);
        x.carry(0, 8);
        Check.is("bumps at the dock", x.home(0), true);
        told("the way is not at its end", x, 0, 82, 2, 0);
    }

    private static void homeGoesOnBehindSlips() {
        Stepscout x = new Stepscout();
        x.ground(2, true, 0);
        x.robot(2, 0);
        x.step(0, RIGHT);
        x.step(0, RIGHT);
        Check.is("way", x.way(0), "ll");
        Check.is("a slip is not felt", x.home(0), false);
        told("one short", x, 1, 100 - 2 - 4, 0, 0);
        Check.is("slips", x.ofRobot(0, 7), 1);
    }

    private static void homeEndsWithBatteryAndLight() {
        Stepscout x = new Stepscout();
        x.robot(2, -1);
        x.robot(2, -1);
        for (int i = 0; i < 48; i++) {
            x.step(0, i % 2 == 0 ? RIGHT : LEFT);
            x.step(0, UP);
        }
        x.step(0, DOWN);
        x.step(0, DOWN);
        Check.is("battery", x.ofRobot(0, 1), 2);
        x.carry(0, 63);
        x.step(0, UP);
        x.carry(0, 40);
        Check.is("need", x.ofRobot(0, 12), 1);
        x.step(1, DOWN);
        x.step(1, DOWN);
        x.rest(200);
        x.rest(200);
        x.rest(200);
        x.rest(719 - x.yard(0));
        Check.is("the last minute", x.yard(0), 719);
        Check.is("in the dark", x.home(1), false);
        Check.is("a step went", x.ofRobot(1, 0), 8);
        Check.is("minute", x.yard(0), 720);
        Check.is("no step in the dark", x.home(1), false);
        Check.is("steps", x.ofRobot(1, 5), 3);

        Stepscout y = new Stepscout();
        y.robot(2, -1);
        for (int i = 0; i < 95; i++) {
            y.step(0, UP);
        }
        for (int i = 0; i < 3; i++) {
            y.step(0, DOWN);
        }
        Check.is("not all the way", y.home(0), false);
        told("no battery", y, 8, 0, 0, 1);
        Check.is("no step without battery", y.home(0), false);
        Check.is("steps", y.ofRobot(0, 5), 100);
        y.carry(0, 0);
        Check.is("at the dock without a step", y.home(0), true);
    }

    private static void homeIsRefused() {
        Stepscout x = new Stepscout();
        x.robot(2, -1);
        for (int robot : NO_ROBOTS) {
            Check.fails("home of " + robot, INDEX, x, () -> x.home(robot));
        }
        x.carry(0, 1);
        x.step(0, LEFT);
        Check.is("outside", x.ofRobot(0, 2), -1);
        Check.fails("the sum is outside", STATE, x, () -> x.home(0));
        x.step(0, RIGHT);
        x.step(0, RIGHT);
        x.carry(0, 10);
        x.wall(1, true);
        Check.fails("the sum is a wall", STATE, x, () -> x.home(0));
        x.wall(1, false);
        x.step(0, RIGHT);
        x.wall(1, true);
        x.wall(8, true);
        Check.fails("walled up", STATE, x, () -> x.home(0));
        x.wall(8, false);
        Check.is("a way again", x.way(0), "dllu");
        Check.is("its length", x.ofRobot(0, 12), 4);
    }

    private static void minutesGoBy() {
        Stepscout x = new Stepscout();
        x.robot(2, 0);
        x.bin(5, 45, 3);
        x.bin(6, 50, 9);
        x.bin(7, 0, 0);
        Check.is("nine minutes", x.rest(9), 9);
        Check.is("nothing comes", x.ofBin(0, 1), 45);
        Check.is("the tenth", x.rest(1), 10);
        Check.is("some came", x.ofBin(0, 1), 48);
        Check.is("full", x.ofBin(1, 1), 50);
        Check.is("spoilt", x.yard(9), 9);
        Check.is("minute 19", x.rest(9), 19);
        x.step(0, UP);
        Check.is("a step makes minute 20", x.ofBin(0, 1), 50);
        Check.is("spoilt", x.yard(9), 9 + 9 + 1);
        Check.is("ever", x.yard(10), 95 + 12 + 12);
        Check.is("200 minutes", x.rest(200), 220);
        Check.is("spoilt", x.yard(9), 19 + 20 * 12);
        Check.is("battery", x.ofRobot(0, 1), 99);
        Check.is("the dock alone", x.possible(0), 1L);
        for (int minutes : new int[] {0, -1, 201, Integer.MIN_VALUE, Integer.MAX_VALUE}) {
            Check.fails("rest " + minutes, ARGUMENT, x, () -> x.rest(minutes));
        }
        x.rest(200);
        x.rest(200);
        Check.is("minute 719", x.rest(99), 719);
        Check.is("no dark yet", x.yard(11), 0);
        Check.is("into the dark", x.rest(200), 919);
        Check.is("dark", x.yard(11), 1);
        Check.is("bins fill in the dark", x.yard(10), 95 + 91 * 12);
        Check.fails("rest in the dark", STATE, x, () -> x.rest(1));
        Check.fails("rest 0 in the dark", ARGUMENT, x, () -> x.rest(0));
        Check.is("sound", x.isSound(), true);

        Stepscout y = new Stepscout();
        for (int i = 0; i < 3; i++) {
            y.rest(180);
        }
        Check.is("dark begins", y.rest(180), 720);
        Check.is("dark", y.yard(11), 1);
        Check.fails("rest as dark begins", STATE, y, () -> y.rest(1));
    }

    public static void main(String[] arguments) {
        robotsCome();
        robotsAreRefused();
        stepsGoAndBump();
        stepsSlipOnSand();
        doubtGrowsBySand();
        bumpsKeepSlipsInMind();
        stepsAreRefused();
        looksShow();
        looksKeepSlipsInMind();
        robotsAreCarried();
        carryingIsRefused();
        robotsAreCharged();
        chargingEndsAllDoubt();
        theLastLoadIsTaken();
        loadsAreTakenAndBrought();
        robotsWalkHome();
        homeGoesOnBehindSlips();
        homeEndsWithBatteryAndLight();
        homeIsRefused();
        minutesGoBy();
        Check.end("RobotTest");
    }
}
