/** Promises 15 to 21: ofRobot, possible, ofPlace, ofBin, yard, way, row. */
public final class AskedTest {
    private static final Class<IndexOutOfBoundsException> INDEX = IndexOutOfBoundsException.class;
    private static final Class<IllegalArgumentException> ARGUMENT = IllegalArgumentException.class;
    private static final int[] NO_ROBOTS = {-1, 1, 3, Integer.MIN_VALUE, Integer.MAX_VALUE};
    private static final int UP = 0;
    private static final int RIGHT = 1;
    private static final int DOWN = 2;
    private static final int LEFT = 3;

    private static void robot(String what, Stepscout x, int... due) {
        for (int i = 0; i < due.length; i++) {
            Check.is(what + ": ofRobot(0, " + i + ")", x.ofRobot(0, i), due[i]);
        }
    }

    private static void robotsAnswer() {
        Stepscout x = new Stepscout();
        x.ground(1, true, 0);
        x.ground(2, true, 0);
        x.bin(8, 4, 0);
        x.robot(4, 2);
        robot("new", x, 0, 100, 0, 0, 0, 0, 0, 0, 1, 1, 0, 0, 0);
        x.step(0, RIGHT);
        x.step(0, UP);
        x.step(0, RIGHT);
        robot("slipped", x, 1, 95, 2, 0, 0, 3, 1, 1, 2, 1, 4, 0, 2);
        x.step(0, DOWN);
        robot("one down", x, 9, 93, 2, 1, 0, 4, 1, 1, 3, 1, 4, 0, 3);
        x.step(0, LEFT);
        x.take(0);
        robot("at the bin", x, 8, 92, 1, 1, 4, 5, 1, 1, 4, 1, 4, 0, 2);
        x.look(0);
        robot("seen", x, 8, 92, 1, 1, 4, 5, 1, 1, 1, 0, 1, 0, 2);
        for (int robot : NO_ROBOTS) {
            Check.fails("ofRobot(" + robot + ")", INDEX, x, () -> x.ofRobot(robot, 0));
            Check.fails("ofRobot(" + robot + ", 13)", INDEX, x, () -> x.ofRobot(robot, 13));
        }
        for (int what : new int[] {-1, 13, Integer.MIN_VALUE, Integer.MAX_VALUE}) {
            Check.fails("ofRobot(0, " + what + ")", ARGUMENT, x, () -> x.ofRobot(0, what));
        }
    }

    private static void needIsTheGreatest() {
        Stepscout x = new Stepscout();
        x.robot(2, -1);
        for (int i = 0; i < 84; i++) {
            x.step(0, UP);
        }
        x.carry(0, 0);
        Check.is("need", x.ofRobot(0, 10), 14);
        Check.is("14 of 16 will do", x.ofRobot(0, 11), 0);
        x.step(0, UP);
        Check.is("of the upmost row", x.ofRobot(0, 10), 7);
        Check.is("7 of 15", x.ofRobot(0, 11), 0);
        x.carry(0, 0);
        Check.is("14 of 15 will not", x.ofRobot(0, 11), 1);
        x.wall(62, true);
        x.wall(55, true);
        Check.is("the dock alone", x.ofRobot(0, 10), 0);
        x.carry(0, 63);
        Check.is("no way from 63", x.ofRobot(0, 10), -1);
        Check.is("must turn", x.ofRobot(0, 11), 1);
        x.carry(0, 0);
        x.look(0);
        for (int i = 0; i < 13; i++) {
            x.step(0, LEFT);
        }
        Check.is("battery", x.ofRobot(0, 1), 2);
        Check.is("0 of 2", x.ofRobot(0, 11), 0);
        x.step(0, LEFT);
        Check.is("0 of 1", x.ofRobot(0, 11), 1);
        x.step(0, LEFT);
        Check.is("0 of 0", x.ofRobot(0, 11), 1);
    }

    private static void sumsLeaveTheYard() {
        int[][] cases = {{0, 56, UP, 0, -1}, {7, 0, RIGHT, 8, 0}, {56, 0, DOWN, 0, 8}, {0, 7, LEFT, -1, 0},
            {24, 25, LEFT, -1, 3}, {31, 30, RIGHT, 8, 3}, {63, 0, DOWN, 7, 8}, {7, 63, UP, 7, -1}};
        for (int[] c : cases) {
            Stepscout x = new Stepscout();
            x.dock(c[0]);
            x.robot(2, -1);
            x.carry(0, c[1]);
            Check.is("not felt", x.step(0, c[2]), false);
            Check.is("column outside", x.ofRobot(0, 2), c[3]);
            Check.is("row outside", x.ofRobot(0, 3), c[4]);
            Check.is("outside is not possible", x.ofRobot(0, 9), 0);
            Check.is("no way from outside", x.ofRobot(0, 12), -1);
            Check.is("no way from outside", x.way(0), "none");
        }
    }

    private static void possibleIsASet() {
        Stepscout x = new Stepscout();
        x.dock(63);
        x.robot(2, -1);
        Check.is("the sign", x.possible(0), Long.MIN_VALUE);
        x.step(0, LEFT);
        Check.is("beside it", x.possible(0), 1L << 62);
        x.carry(0, 0);
        Check.is("all", x.possible(0), -1L);
        x.step(0, RIGHT);
        Check.is("none is in the first column", x.possible(0), 0xFEFEFEFEFEFEFEFEL);
        x.step(0, UP);
        Check.is("a bump", x.possible(0), 0xFEL);
        x.step(0, DOWN);
        Check.is("a row down", x.possible(0), 0xFE00L);
        x.step(0, LEFT);
        Check.is("a column left", x.possible(0), 0x7F00L);
        for (int robot : NO_ROBOTS) {
            Check.fails("possible(" + robot + ")", INDEX, x, () -> x.possible(robot));
        }
    }

    private static void place(Stepscout x, int place, int... due) {
        for (int i = 0; i < due.length; i++) {
            Check.is("ofPlace(" + place + ", " + i + ")", x.ofPlace(place, i), due[i]);
        }
    }

    private static void placesAnswer() {
        Stepscout x = new Stepscout();
        for (int place = 1; place <= 3; place++) {
            x.ground(place, true, place);
        }
        x.wall(5, true);
        x.wall(63, true);
        x.wall(55, true);
        x.bin(4, 0, 0);
        x.bin(4, 9, 0);
        x.bin(0, 9, 0);
        x.robot(2, 0);
        x.robot(2, 0);
        x.robot(2, 0);
        x.carry(1, 4);
        place(x, 0, 0, 0, 0, 0, 9, 2, 2);
        place(x, 1, 0, 1, 1, 2, 1, 0, -1);
        place(x, 2, 0, 1, 2, 4, 1, 0, -1);
        place(x, 3, 0, 1, 3, 6, 1, 0, -1);
        place(x, 4, 0, 0, 0, 6, 3, 1, 0);
        place(x, 5, 1, 0, 0, -1, 1, 0, -1);
        place(x, 6, 0, 0, 0, 8, 9, 0, -1);
        place(x, 13, 0, 0, 0, 6, 1, 0, -1);
        place(x, 54, 0, 0, 0, 12, 2, 0, -1);
        place(x, 55, 1, 0, 0, -1, 6, 0, -1);
        place(x, 63, 1, 0, 0, -1, 7, 0, -1);
        x.wall(62, true);
        x.wall(55, false);
        x.wall(47, true);
        x.wall(54, true);
        place(x, 55, 0, 0, 0, -1, 15, 0, -1);
        for (int place : new int[] {-1, 64, Integer.MIN_VALUE, Integer.MAX_VALUE}) {
            Check.fails("ofPlace(" + place + ")", INDEX, x, () -> x.ofPlace(place, 0));
            Check.fails("ofPlace(" + place + ", 7)", INDEX, x, () -> x.ofPlace(place, 7));
        }
        for (int what : new int[] {-1, 7, Integer.MIN_VALUE, Integer.MAX_VALUE}) {
            Check.fails("ofPlace(0, " + what + ")", ARGUMENT, x, () -> x.ofPlace(0, what));
        }
    }

    private static void needLeavesSandAtDoubleCost() {
        Stepscout x = new Stepscout();
        x.ground(0, true, 0);
        Check.is("nobody leaves the dock", x.ofPlace(1, 3), 1);
        x.ground(1, true, 0);
        Check.is("sand", x.ofPlace(1, 3), 2);
        Check.is("behind sand", x.ofPlace(2, 3), 3);
        for (int place = 0; place < 64; place++) {
            x.ground(place, true, 0);
        }
        Check.is("all sand", x.ofPlace(63, 3), 28);
        for (int row = 1; row < 8; row += 2) {
            for (int column = 0; column < 7; column++) {
                x.wall(row * 8 + (row % 4 == 1 ? column : column + 1), true);
            }
        }
        Check.is("the longest way", x.ofPlace(56, 3), 2 * 35);
        Check.is("walls", x.yard(2), 28);
    }

    private static void binsAnswer() {
        Stepscout x = new Stepscout();
        x.bin(9, 7, 5);
        int[] due = {9, 7, 5};
        for (int what = 0; what < 3; what++) {
            Check.is("ofBin(0, " + what + ")", x.ofBin(0, what), due[what]);
        }
        for (int bin : new int[] {-1, 1, 4, Integer.MIN_VALUE, Integer.MAX_VALUE}) {
            Check.fails("ofBin(" + bin + ")", INDEX, x, () -> x.ofBin(bin, 0));
            Check.fails("ofBin(" + bin + ", 3)", INDEX, x, () -> x.ofBin(bin, 3));
        }
        for (int what : new int[] {-1, 3, Integer.MIN_VALUE, Integer.MAX_VALUE}) {
            Check.fails("ofBin(0, " + what + ")", ARGUMENT, x, () -> x.ofBin(0, what));
        }
    }

    private static void theYardAnswers() {
        Stepscout x = new Stepscout();
        x.wall(1, true);
        x.wall(2, true);
        x.ground(3, true, 0);
        x.dock(8);
        x.robot(5, 4);
        x.robot(5, 4);
        x.bin(8, 48, 9);
        x.bin(0, 6, 1);
        x.take(0);
        x.bring(0);
        x.take(0);
        x.carry(1, 0);
        x.take(1);
        x.rest(25);
        int[] due = {25, 8, 2, 1, 2, 2, 50 + 3, 10, 5, 6, 74, 0, 1};
        for (int what = 0; what < due.length; what++) {
            Check.is("yard(" + what + ")", x.yard(what), due[what]);
        }
        x.dock(0);
        Check.is("the dock", x.yard(1), 0);
        Check.is("robots that are not at the dock", x.yard(12), 1);
        x.carry(1, 9);
        Check.is("robots that are not at the dock", x.yard(12), 2);
        for (int what : new int[] {-1, 13, Integer.MIN_VALUE, Integer.MAX_VALUE}) {
            Check.fails("yard(" + what + ")", ARGUMENT, x, () -> x.yard(what));
        }
    }

    private static void waysAreShortestAndFirst() {
        Stepscout x = new Stepscout();
        x.dock(36);
        x.robot(2, -1);
        Check.is("at the dock", x.way(0), "");
        x.dock(27);
        Check.is("up is ahead of left", x.way(0), "ul");
        x.dock(45);
        Check.is("right is ahead of down", x.way(0), "rd");
        x.dock(43);
        Check.is("down is ahead of left", x.way(0), "dl");
        x.dock(29);
        Check.is("up is ahead of right", x.way(0), "ur");
        x.wall(28, true);
        Check.is("round a wall", x.way(0), "ru");
        x.ground(37, true, 0);
        Check.is("sand does not matter", x.way(0), "ru");
        x.wall(37, true);
        Check.is("the first of two ways round", x.way(0), "drruul");
        Check.is("its length", x.ofRobot(0, 12), 6);
        x.wall(45, true);
        Check.is("the other one", x.way(0), "luurrd");
        x.wall(30, true);
        x.wall(21, true);
        Check.is("walled up", x.way(0), "none");
        Check.is("no length", x.ofRobot(0, 12), -1);
        x.wall(21, false);
        x.carry(0, 0);
        x.wall(36, true);
        Check.is("the sum is a wall", x.way(0), "none");
        Check.is("no length", x.ofRobot(0, 12), -1);
        for (int robot : NO_ROBOTS) {
            Check.fails("way(" + robot + ")", INDEX, x, () -> x.way(robot));
        }
    }

    private static void theLongestWay() {
        Stepscout x = new Stepscout();
        x.robot(2, -1);
        x.dock(56);
        for (int row = 1; row < 8; row += 2) {
            for (int column = 0; column < 7; column++) {
                x.wall(row * 8 + (row % 4 == 1 ? column : column + 1), row != 7);
            }
        }
        x.wall(62, true);
        Check.is("a snake", x.way(0), "rrrrrrrddlllllllddrrrrrrrddlldlllll");
        Check.is("its length", x.ofRobot(0, 12), 35);
    }

    private static void rowsShowSigns() {
        Stepscout x = new Stepscout();
        x.robot(2, -1);
        x.robot(2, -1);
        x.wall(10, true);
        Check.is("row 0", x.row(0, 0), "o.......");
        Check.is("row 1", x.row(1, 0), "..#.....");
        x.carry(1, 9);
        Check.is("row 0", x.row(0, 1), "????????");
        Check.is("row 1", x.row(1, 1), "?o#?????");
        Check.is("row 7", x.row(7, 1), "????????");
        x.look(1);
        Check.is("row 1 seen", x.row(1, 1), ".o#....?");
        Check.is("row 0 of the other", x.row(0, 0), "o.......");
        for (int row : new int[] {-1, 8, Integer.MIN_VALUE, Integer.MAX_VALUE}) {
            Check.fails("row(" + row + ")", INDEX, x, () -> x.row(row, 0));
            Check.fails("row(" + row + ", 2)", INDEX, x, () -> x.row(row, 2));
        }
        for (int robot : new int[] {-1, 2, Integer.MIN_VALUE, Integer.MAX_VALUE}) {
            Check.fails("row(0, " + robot + ")", INDEX, x, () -> x.row(0, robot));
        }
    }

    public static void main(String[] arguments) {
        robotsAnswer();
        needIsTheGreatest();
        sumsLeaveTheYard();
        possibleIsASet();
        placesAnswer();
        needLeavesSandAtDoubleCost();
        binsAnswer();
        theYardAnswers();
        waysAreShortestAndFirst();
        theLongestWay();
        rowsShowSigns();
        Check.end("AskedTest");
    }
}
