/** The edges that section 5 and the promises 5, 11, 12, 14, 18 and 19 name: BINS empty and full, LOADS, RATE. */
public final class BinEdgesTest {
    private static final Class<IllegalStateException> STATE = IllegalStateException.class;
    private static final int UP = 0;
    private static final int RIGHT = 1;
    private static final int LEFT = 3;

    private static final int IN_BINS = 6;
    private static final int ON_ROBOTS = 7;
    private static final int AT_HOME = 8;
    private static final int SPOILT = 9;
    private static final int EVER = 10;

    private static void loads(String what, Stepscout x, int inBins, int onRobots, int atHome, int spoilt) {
        Check.is(what + ": in bins", x.yard(IN_BINS), inBins);
        Check.is(what + ": on robots", x.yard(ON_ROBOTS), onRobots);
        Check.is(what + ": at home", x.yard(AT_HOME), atHome);
        Check.is(what + ": spoilt", x.yard(SPOILT), spoilt);
        Check.is(what + ": ever", x.yard(EVER), inBins + onRobots + atHome + spoilt);
        Check.is(what + ": sound", x.isSound(), true);
    }

    /** "LOADS (0 to 50) and a RATE (0 to 9)": the least and the greatest of both. */
    private static void theLeastAndTheGreatest() {
        int[][] cases = {{0, 0}, {0, 9}, {50, 0}, {50, 9}, {1, 1}, {49, 8}};
        for (int[] one : cases) {
            Stepscout x = new Stepscout();
            Check.is("number", x.bin(63, one[0], one[1]), 0);
            Check.is("place", x.ofBin(0, 0), 63);
            Check.is("loads", x.ofBin(0, 1), one[0]);
            Check.is("rate", x.ofBin(0, 2), one[1]);
            loads("put up", x, one[0], 0, 0, 0);
            x.rest(10);
            int all = one[0] + one[1];
            Check.is("loads", x.ofBin(0, 1), Math.min(50, all));
            loads("filled", x, Math.min(50, all), 0, 0, Math.max(0, all - 50));
        }
    }

    /** "at most 4, numbered from 0"; they can stand in one PLACE, at the DOCK, on SAND, where a ROBOT is. */
    private static void fourBins() {
        Stepscout x = new Stepscout();
        x.ground(0, true, 1);
        x.robot(2, -1);
        Check.is("none", x.ofPlace(0, 6), -1);
        for (int bin = 0; bin < 4; bin++) {
            Check.is("bins", x.yard(5), bin);
            Check.is("number", x.bin(0, 50, 9), bin);
            Check.is("the smallest", x.ofPlace(0, 6), 0);
            Check.is("it alone", x.ofBin(bin, 1), 50);
        }
        Check.is("bins", x.yard(5), 4);
        loads("four", x, 200, 0, 0, 0);
        Check.fails("a fifth", STATE, x, () -> x.bin(63, 0, 0));
        x.rest(200);
        loads("full all the time", x, 200, 0, 0, 4 * 9 * 20);
        Check.is("no doubt by bins", x.possible(0), 1L);
    }

    /** "what would be above 50 is SPOILT": 50 itself is not. */
    private static void fiftyIsNotTooMuch() {
        for (int rate = 0; rate <= 9; rate++) {
            Stepscout x = new Stepscout();
            x.bin(5, 50 - rate, rate);
            x.bin(6, rate == 0 ? 50 : 51 - rate, rate);
            x.rest(10);
            Check.is("just full", x.ofBin(0, 1), 50);
            Check.is("one too much", x.ofBin(1, 1), 50);
            loads("rate " + rate, x, 100, 0, 0, rate == 0 ? 0 : 1);
            x.rest(10);
            loads("again, rate " + rate, x, 100, 0, 0, rate == 0 ? 0 : 1 + 2 * rate);
        }
    }

    /** "as each MINUTE begins that is a multiple of 10": by a rest, by a STEP, by home(). */
    private static void theTenthMinutes() {
        Stepscout x = new Stepscout();
        x.robot(2, -1);
        x.bin(63, 0, 1);
        for (int minute = 1; minute <= 41; minute++) {
            if (minute % 3 == 0) {
                x.step(0, UP);
            } else {
                x.rest(1);
            }
            Check.is("minute", x.yard(0), minute);
            Check.is("loads at " + minute, x.ofBin(0, 1), minute / 10);
        }
        x.rest(5);
        for (int i = 0; i < 3; i++) {
            x.step(0, RIGHT);
        }
        Check.is("minute 49", x.ofBin(0, 1), 4);
        Check.is("home", x.home(0), true);
        Check.is("minute", x.yard(0), 52);
        Check.is("on the way home", x.ofBin(0, 1), 5);
        Check.is("seven minutes", x.rest(7), 59);
        Check.is("loads", x.ofBin(0, 1), 5);
        Check.is("over two of them", x.rest(11), 70);
        Check.is("loads", x.ofBin(0, 1), 7);
        Check.is("up to one", x.rest(200), 270);
        Check.is("loads", x.ofBin(0, 1), 27);
    }

    /** A BIN gets nothing of the MINUTE in which it is put up. */
    private static void aBinPutUpInATenthMinute() {
        Stepscout x = new Stepscout();
        x.bin(1, 0, 9);
        Check.is("nothing at minute 0", x.ofBin(0, 1), 0);
        x.rest(10);
        x.bin(2, 0, 9);
        Check.is("the first", x.ofBin(0, 1), 9);
        Check.is("nothing yet", x.ofBin(1, 1), 0);
        x.rest(9);
        Check.is("nothing yet", x.ofBin(1, 1), 0);
        x.rest(1);
        Check.is("the first", x.ofBin(0, 1), 18);
        Check.is("the second", x.ofBin(1, 1), 9);
    }

    /** The MINUTE with which the DARK begins is a multiple of 10, too. */
    private static void binsAsTheDarkBegins() {
        Stepscout x = new Stepscout();
        x.robot(2, -1);
        x.bin(63, 0, 5);
        x.rest(200);
        x.rest(200);
        x.rest(200);
        x.rest(119);
        int due = Math.min(50, 71 * 5);
        loads("minute 719", x, due, 0, 0, 71 * 5 - due);
        x.step(0, UP);
        loads("minute 720", x, due, 0, 0, 72 * 5 - due);
        Check.fails("no minute more", STATE, x, () -> x.rest(1));
    }

    /** "it carries 5 at most": each number that it carries, of each number that is there. */
    private static void fiveAtMost() {
        for (int carried = 0; carried <= 5; carried++) {
            for (int there = 0; there <= 7; there++) {
                Stepscout x = new Stepscout();
                x.robot(2, -1);
                x.bin(1, carried, 0);
                x.bin(0, there, 0);
                if (carried > 0) {
                    x.carry(0, 1);
                    Check.is("taken at first", x.take(0), carried);
                    x.carry(0, 0);
                }
                String what = "carries " + carried + ", there are " + there;
                int due = Math.min(there, 5 - carried);
                if (there == 0) {
                    Check.fails(what, STATE, x, () -> x.take(0));
                } else {
                    Check.is(what, x.take(0), due);
                }
                Check.is(what + ": carries then", x.ofRobot(0, 4), carried + due);
                Check.is(what + ": left", x.ofBin(1, 1), there - due);
                loads(what, x, there - due, carried + due, 0, 0);
                Check.is(what + ": brings", x.bring(0), carried + due);
                loads(what, x, there - due, 0, carried + due, 0);
                Check.is(what + ": brings again", x.bring(0), 0);
            }
        }
    }

    /** "(of several that with the smallest number that has LOADS, and of that alone)". */
    private static void theSmallestThatHasLoads() {
        Stepscout x = new Stepscout();
        x.robot(2, -1);
        x.robot(2, -1);
        x.bin(9, 50, 9);
        x.bin(0, 0, 3);
        x.bin(0, 2, 0);
        x.bin(0, 4, 0);
        Check.is("the bin there", x.ofPlace(0, 6), 1);
        Check.is("of the second one alone", x.take(0), 2);
        Check.is("it is empty", x.ofBin(2, 1), 0);
        Check.is("the next is not asked", x.ofBin(3, 1), 4);
        Check.is("of the third one", x.take(0), 3);
        Check.is("one is left", x.ofBin(3, 1), 1);
        Check.is("full", x.take(0), 0);
        Check.is("one is left", x.ofBin(3, 1), 1);
        Check.is("of the other robot", x.take(1), 1);
        Check.is("the bin there, empty", x.ofPlace(0, 6), 1);
        Check.fails("all are empty", STATE, x, () -> x.take(1));
        x.rest(10);
        Check.is("of the first, that has some again", x.take(1), 3);
        loads("in the end", x, 50, 9, 0, 9);
        x.step(1, RIGHT);
        Check.fails("beside the bins", STATE, x, () -> x.take(1));
        Check.fails("beside the dock", STATE, x, () -> x.bring(1));
        x.step(1, LEFT);
        Check.is("brought", x.bring(1), 4);
        Check.is("the other's are not", x.ofRobot(0, 4), 5);
        loads("in the very end", x, 50, 5, 4, 9);
    }

    /** A BIN makes room for what comes by what is taken of it. */
    private static void takenAheadOfTheTenthMinute() {
        Stepscout x = new Stepscout();
        x.robot(2, -1);
        x.bin(0, 50, 7);
        x.rest(9);
        x.take(0);
        Check.is("45", x.ofBin(0, 1), 45);
        x.rest(1);
        Check.is("full again", x.ofBin(0, 1), 50);
        loads("two are spoilt", x, 50, 5, 0, 2);
        x.bring(0);
        x.take(0);
        x.bring(0);
        x.take(0);
        x.rest(10);
        loads("nothing more is spoilt", x, 47, 5, 10, 2);
    }

    /** "12 ROBOTS that are not at the DOCK", 7 LOADS on all of them: each of three. */
    private static void threeRobotsCarry() {
        Stepscout x = new Stepscout();
        x.bin(9, 50, 0);
        for (int robot = 0; robot < 3; robot++) {
            x.robot(2, -1);
            x.carry(robot, 9);
            Check.is("five", x.take(robot), 5);
            Check.is("on robots", x.yard(ON_ROBOTS), 5 * robot + 5);
            Check.is("away", x.yard(12), robot + 1);
        }
        x.dock(9);
        Check.is("the dock is here", x.yard(12), 0);
        for (int robot = 2; robot >= 0; robot--) {
            Check.is("brings", x.bring(robot), 5);
            Check.is("on robots", x.yard(ON_ROBOTS), 5 * robot);
        }
        loads("in the end", x, 35, 0, 15, 0);
    }

    public static void main(String[] arguments) {
        theLeastAndTheGreatest();
        fourBins();
        fiftyIsNotTooMuch();
        theTenthMinutes();
        aBinPutUpInATenthMinute();
        binsAsTheDarkBegins();
        fiveAtMost();
        theSmallestThatHasLoads();
        takenAheadOfTheTenthMinute();
        threeRobotsCarry();
        Check.end("BinEdgesTest");
    }
}
