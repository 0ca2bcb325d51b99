/** Promises 22 to 26: after, lookWorst, sure, isSound, digest. */
public final class WouldBeTest {
    private static final Class<IndexOutOfBoundsException> INDEX = IndexOutOfBoundsException.class;
    private static final Class<IllegalArgumentException> ARGUMENT = IllegalArgumentException.class;
    private static final int[] NO_ROBOTS = {-1, 1, 3, Integer.MIN_VALUE, Integer.MAX_VALUE};
    private static final int UP = 0;
    private static final int RIGHT = 1;
    private static final int DOWN = 2;
    private static final int LEFT = 3;

    private static void after(String what, Stepscout x, int... due) {
        for (int side = 0; side < 4; side++) {
            Check.is(what + ": bump to " + side, x.after(0, side, true), due[2 * side]);
            Check.is(what + ": step to " + side, x.after(0, side, false), due[2 * side + 1]);
        }
    }

    private static void stepsAreForeseen() {
        Stepscout x = new Stepscout();
        x.ground(0, true, 0);
        x.ground(1, true, 0);
        x.wall(9, true);
        x.robot(2, 0);
        after("on sand", x, 1, 0, 0, 2, 0, 2, 1, 0);
        x.step(0, RIGHT);
        Check.is("0 with a slip, 1 without", x.possible(0), 3L);
        after("within the block", x, 2, 0, 0, 2, 1, 1, 1, 2);
        x.step(0, UP);
        Check.is("both bumped", x.possible(0), 3L);
        after("a new block", x, 2, 0, 0, 3, 1, 2, 1, 2);
        Check.is("nothing is changed", x.possible(0), 3L);
        Check.is("nothing is changed", x.ofRobot(0, 5), 2);
        x.carry(0, 63);
        after("anywhere, 0 can be left alone by two sides", x, 9, 54, 9, 54 + 1, 9, 54 + 1, 9, 54);
        for (int robot : NO_ROBOTS) {
            Check.fails("after(" + robot + ")", INDEX, x, () -> x.after(robot, 0, true));
            Check.fails("after(" + robot + ", 4)", INDEX, x, () -> x.after(robot, 4, true));
        }
        for (int side : new int[] {-1, 4, Integer.MIN_VALUE, Integer.MAX_VALUE}) {
            Check.fails("after(0, " + side + ")", ARGUMENT, x, () -> x.after(0, side, false));
        }
    }

    private static void stepsAreForeseenInTheDark() {
        Stepscout x = new Stepscout();
        x.robot(2, 0);
        for (int i = 0; i < 100; i++) {
            x.step(0, UP);
        }
        Check.is("without battery", x.after(0, RIGHT, false), 1);
        for (int i = 0; i < 4; i++) {
            x.rest(160);
        }
        Check.is("in the dark", x.after(0, RIGHT, false), 1);
        Check.is("no bump in the dark", x.after(0, RIGHT, true), 0);
    }

    private static void theWorstLook() {
        Stepscout x = new Stepscout();
        x.robot(2, 0);
        Check.is("the dock alone", x.lookWorst(0), 1);
        x.carry(0, 63);
        Check.is("the inside", x.lookWorst(0), 36);
        x.ground(9, false, 1);
        Check.is("less one by its mark", x.lookWorst(0), 35);
        x.wall(10, true);
        Check.is("less the wall and two beside it", x.lookWorst(0), 35 - 1 - 2);
        x.step(0, UP);
        x.look(0);
        Check.is("seen", x.lookWorst(0), x.ofRobot(0, 8));
        Check.is("possible stays", x.ofRobot(0, 8), 6);
        for (int robot : NO_ROBOTS) {
            Check.fails("lookWorst(" + robot + ")", INDEX, x, () -> x.lookWorst(robot));
        }
    }

    private static void marksTellPlacesApart() {
        Stepscout x = new Stepscout();
        x.robot(2, 0);
        for (int place = 0; place < 64; place++) {
            x.ground(place, false, place / 8 % 4);
        }
        x.carry(0, 63);
        Check.is("marks of the inside", x.lookWorst(0), 12);
        x.look(0);
        Check.is("mark 3 in the corner", x.lookWorst(0), 1);
        Check.is("sound", x.isSound(), true);
    }

    /** Mark 3, and nowhere to go: the greatest answer of a look. */
    private static void theGreatestLook() {
        Stepscout x = new Stepscout();
        x.robot(2, 0);
        x.wall(1, true);
        x.wall(8, true);
        x.ground(0, false, 3);
        Check.is("look", x.look(0), 63);
        Check.is("it alone", x.lookWorst(0), 1);
        x.carry(0, 63);
        Check.is("the inside less two", x.lookWorst(0), 36 - 1);
        Check.is("walled in", x.sure(0), "none");
        Check.is("digest", x.digest(), digestOfAnswers(x));
    }

    private static void sureRowsAreShort() {
        Stepscout x = new Stepscout();
        x.ground(0, true, 0);
        x.robot(9, -1);
        x.robot(9, 0);
        Check.is("at the dock", x.sure(0), "");
        x.step(0, RIGHT);
        Check.is("0 or 1", x.sure(0), "l");
        x.step(1, RIGHT);
        Check.is("0 or 1, slipped", x.sure(1), "l");
        Check.is("slipped", x.ofRobot(1, 7), 1);
        x.step(0, RIGHT);
        Check.is("1 or 2", x.sure(0), "ll");
        x.step(0, DOWN);
        Check.is("9 or 10", x.sure(0), "ull");
        x.step(0, DOWN);
        x.step(0, RIGHT);
        Check.is("18 or 19", x.sure(0), "uulll");
        x.step(0, DOWN);
        Check.is("26 or 27", x.sure(0), "uuulll");
        x.step(0, DOWN);
        Check.is("too far", x.sure(0), "none");
        x.carry(0, 0);
        Check.is("anywhere", x.sure(0), "none");
        x.look(0);
        Check.is("seen", x.sure(0), "");
        x.carry(0, 63);
        x.look(0);
        Check.is("far away", x.sure(0), "none");
        Check.is("sound", x.isSound(), true);
        for (int robot : new int[] {-1, 2, Integer.MIN_VALUE, Integer.MAX_VALUE}) {
            Check.fails("sure(" + robot + ")", INDEX, x, () -> x.sure(robot));
        }
    }

    /** A row of four PLACES, the DOCK beside one end: bumps bring all of them together. */
    private static void sureRowsGoPastTheDock() {
        Stepscout x = new Stepscout();
        x.robot(2, -1);
        for (int place = 4; place < 16; place++) {
            x.wall(place, true);
        }
        x.dock(1);
        for (int place = 16; place < 64; place++) {
            x.wall(place, true);
        }
        Check.is("four are possible", x.possible(0), 15L);
        Check.is("to the end and back", x.sure(0), "lllr");
        x.step(0, LEFT);
        Check.is("one was at the end", x.possible(0), 1L);
        Check.is("known", x.sure(0), "r");
        Check.is("sound", x.isSound(), true);
        x.dock(2);
        Check.is("to the other end is as long", x.sure(0), "rrrl");
        x.dock(0);
        Check.is("this end", x.sure(0), "lll");
        x.wall(8, false);
        x.carry(0, 8);
        Check.is("the dock is no end", x.sure(0), "ulll");
        x.dock(8);
        Check.is("into the bay", x.sure(0), "llld");
        Check.is("sound", x.isSound(), true);
    }

    private static long digestOfAnswers(Stepscout x) {
        long d = 5147;
        for (int what = 0; what <= 12; what++) {
            d = d * 31 + x.yard(what);
        }
        for (int robot = 0; robot < x.yard(4); robot++) {
            for (int what = 0; what <= 12; what++) {
                d = d * 31 + x.ofRobot(robot, what);
            }
            d = d * 31 + x.possible(robot);
            d = d * 31 + x.lookWorst(robot);
            for (int side = 0; side < 4; side++) {
                d = d * 31 + x.after(robot, side, true);
                d = d * 31 + x.after(robot, side, false);
            }
            d = d * 31 + x.sure(robot).length();
        }
        for (int bin = 0; bin < x.yard(5); bin++) {
            for (int what = 0; what <= 2; what++) {
                d = d * 31 + x.ofBin(bin, what);
            }
        }
        for (int place = 0; place < 64; place++) {
            d = d * 31 + x.ofPlace(place, 3);
        }
        return d * 31 + (x.isSound() ? 1 : 0);
    }

    private static void digestsTellAllAnswers() {
        Stepscout x = new Stepscout();
        Check.is("new", x.digest(), digestOfAnswers(x));
        x.wall(10, true);
        x.wall(62, true);
        x.wall(55, true);
        x.ground(1, true, 2);
        x.bin(2, 50, 7);
        x.bin(9, 3, 0);
        x.robot(2, 0);
        x.robot(3, 1);
        x.robot(9, -1);
        x.step(0, RIGHT);
        x.step(1, RIGHT);
        x.step(1, RIGHT);
        x.carry(2, 63);
        Check.is("lived in", x.digest(), digestOfAnswers(x));
        x.rest(200);
        x.carry(0, 2);
        x.take(0);
        Check.is("later", x.digest(), digestOfAnswers(x));
        Check.is("asked twice", x.digest(), x.digest());
    }

    public static void main(String[] arguments) {
        stepsAreForeseen();
        stepsAreForeseenInTheDark();
        theWorstLook();
        marksTellPlacesApart();
        theGreatestLook();
        sureRowsAreShort();
        sureRowsGoPastTheDock();
        digestsTellAllAnswers();
        Check.end("WouldBeTest");
    }
}
