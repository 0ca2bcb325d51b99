/** The edges that section 1 and the promises 1 to 4 name: the yard's ends, WALLS all around, MARKS, the DOCK. */
public final class YardEdgesTest {
    private static final int[] ROWS_OFF = {-1, 0, 1, 0};
    private static final int[] COLUMNS_OFF = {0, 1, 0, -1};

    /** The PLACE to that SIDE, or -1 if the yard ends there. */
    private static int beside(int place, int side) {
        int row = place / 8 + ROWS_OFF[side];
        int column = place % 8 + COLUMNS_OFF[side];
        return row < 0 || row > 7 || column < 0 || column > 7 ? -1 : row * 8 + column;
    }

    /** "PLACES 0 to 63": the first and the last one will do in each call that takes one. */
    private static void theFirstAndTheLastPlace() {
        for (int place : new int[] {0, 63}) {
            Stepscout x = new Stepscout();
            x.dock(30);
            String at = " at " + place;
            Check.is("a wall" + at, x.wall(place, true), 1);
            Check.is("it is one" + at, x.ofPlace(place, 0), 1);
            Check.is("no wall" + at, x.wall(place, false), 0);
            Check.is("ground" + at, x.ground(place, true, 3), 0);
            Check.is("sand" + at, x.ofPlace(place, 1), 1);
            Check.is("mark" + at, x.ofPlace(place, 2), 3);
            Check.is("bin" + at, x.bin(place, 1, 0), 0);
            Check.is("its place", x.ofBin(0, 0), place);
            Check.is("the bin" + at, x.ofPlace(place, 6), 0);
            x.robot(2, -1);
            Check.is("carried there", x.carry(0, place), 30);
            Check.is("a robot" + at, x.ofPlace(place, 5), 1);
            Check.is("dock" + at, x.dock(place), 30);
            Check.is("it is the dock", x.yard(1), place);
            Check.is("charged" + at, x.charge(0), 100);
            Check.is("possible" + at, x.possible(0), 1L << place);
        }
    }

    /** "8 ROWS of 8: the PLACE p is in the ROW p / 8, at p modulo 8 in it". */
    private static void rowsOfEight() {
        Stepscout x = new Stepscout();
        x.robot(2, -1);
        for (int place = 0; place < 64; place++) {
            x.carry(0, place);
            for (int row = 0; row < 8; row += 7) {
                String signs = x.row(row, 0);
                Check.is("eight signs", signs.length(), 8);
                Check.is("robot at " + place, signs.indexOf('o'), place / 8 == row ? place % 8 : -1);
            }
            Check.is("robot at " + place, x.row(place / 8, 0).charAt(place % 8), 'o');
        }
        for (int place = 1; place < 64; place++) {
            Stepscout y = new Stepscout();
            y.robot(2, -1);
            y.wall(place, true);
            for (int row = 0; row < 8; row++) {
                Check.is("wall at " + place, y.row(row, 0).indexOf('#'), place / 8 == row ? place % 8 : -1);
            }
        }
    }

    /** "From a PLACE a SIDE is BLOCKED, if the yard ends there": a STEP from each PLACE to each SIDE. */
    private static void theYardEnds() {
        for (int place = 0; place < 64; place++) {
            Stepscout x = new Stepscout();
            x.robot(2, -1);
            int[] worth = {1, 2, 4, 8};
            int blocked = 0;
            for (int side = 0; side < 4; side++) {
                int there = beside(place, side);
                String what = "step from " + place + " to " + side;
                x.carry(0, place);
                Check.is(what + " bumps", x.step(0, side), there < 0);
                Check.is(what + " leads", x.ofRobot(0, 0), there < 0 ? place : there);
                blocked += there < 0 ? worth[side] : 0;
            }
            x.carry(0, place);
            Check.is("look at " + place, x.look(0), blocked);
            Check.is("sides of " + place, x.ofPlace(place, 4), blocked);
        }
    }

    /** ".. or a WALL is there": each set of WALLS beside each PLACE. */
    private static void wallsBlock() {
        for (int place = 0; place < 64; place++) {
            for (int set = 0; set < 16; set++) {
                Stepscout x = new Stepscout();
                x.dock(place);
                x.ground(place, false, place % 4);
                x.robot(2, -1);
                int blocked = 0;
                for (int side = 0; side < 4; side++) {
                    int there = beside(place, side);
                    if (there >= 0 && (set >> side & 1) != 0) {
                        x.wall(there, true);
                    }
                    blocked += there < 0 || (set >> side & 1) != 0 ? 1 << side : 0;
                }
                String what = "walls " + set + " round " + place;
                Check.is(what + ": sides", x.ofPlace(place, 4), blocked);
                Check.is(what + ": look", x.look(0), place % 4 * 16 + blocked);
                Check.is(what + ": need of the dock", x.ofPlace(place, 3), 0);
                for (int side = 0; side < 4; side++) {
                    boolean bump = (blocked >> side & 1) != 0;
                    Check.is(what + ": bump to " + side, x.after(0, side, true), bump ? 1 : 0);
                    Check.is(what + ": step to " + side, x.after(0, side, false), bump ? 0 : 1);
                }
                if (blocked == 15) {
                    Check.is(what + ": walled in", x.ofPlace((place + 32) % 64, 3), -1);
                }
            }
        }
    }

    /** A WALL stands in the way from all four sides, and a WALL's own sides are told as well. */
    private static void aWallFromAllSides() {
        Stepscout x = new Stepscout();
        x.wall(27, true);
        int[][] round = {{19, 4}, {26, 2}, {35, 1}, {28, 8}, {27, 0}, {18, 0}, {36, 0}};
        for (int[] one : round) {
            Check.is("sides of " + one[0], x.ofPlace(one[0], 4), one[1]);
        }
        x.wall(28, true);
        Check.is("a wall beside a wall", x.ofPlace(27, 4), 2);
        Check.is("a wall beside a wall", x.ofPlace(28, 4), 8);
    }

    /** All but the DOCK can be a WALL: 63 of them. */
    private static void aYardFullOfWalls() {
        Stepscout x = new Stepscout();
        x.dock(63);
        x.robot(2, -1);
        for (int place = 0; place < 63; place++) {
            Check.is("walls", x.wall(place, true), place + 1);
        }
        Check.is("walls", x.yard(2), 63);
        Check.is("the same again", x.wall(0, true), 63);
        Check.is("the dock alone", x.possible(0), Long.MIN_VALUE);
        Check.is("the dock again", x.dock(63), 63);
        Check.is("all that is no wall", x.possible(0), Long.MIN_VALUE);
        Check.is("the dock is sure", x.sure(0), "");
        Check.is("way", x.way(0), "");
        Check.is("look", x.look(0), 15);
        for (int place = 0; place < 63; place++) {
            Check.is("need of a wall", x.ofPlace(place, 3), -1);
        }
        Check.is("the last row", x.row(7, 0), "#######o");
        Check.is("the first row", x.row(0, 0), "########");
        for (int side = 0; side < 4; side++) {
            Check.is("bump", x.step(0, side), true);
        }
        for (int place = 0; place < 63; place++) {
            Check.is("walls", x.wall(place, false), 62 - place);
        }
        Check.is("no walls", x.yard(2), 0);
        Check.is("no wall that never was", x.wall(5, false), 0);
    }

    private static void aYardFullOfSand() {
        Stepscout x = new Stepscout();
        for (int place = 0; place < 64; place++) {
            x.ground(place, true, place % 4);
            Check.is("sand", x.yard(3), place + 1);
        }
        x.ground(63, true, 0);
        Check.is("the same again", x.yard(3), 64);
        for (int place = 0; place < 64; place++) {
            Check.is("mark", x.ground(place, false, 3 - place % 4), place == 63 ? 0 : place % 4);
        }
        Check.is("no sand", x.yard(3), 0);
        Check.is("a mark", x.ofPlace(62, 2), 1);
    }

    /** "mark is 0 to 3": each of them is kept, told and seen. */
    private static void allMarks() {
        Stepscout x = new Stepscout();
        x.robot(2, -1);
        x.carry(0, 27);
        int before = 0;
        for (int mark : new int[] {0, 1, 2, 3, 0, 3, 1, 0}) {
            Check.is("mark before", x.ground(27, false, mark), before);
            Check.is("mark", x.ofPlace(27, 2), mark);
            Check.is("look", x.look(0), 16 * mark);
            Check.is("no sand", x.ofPlace(27, 1), 0);
            before = mark;
        }
    }

    /** "The DOCK, a ROBOT or a BIN is there": each of them alone, and no longer than it is there. */
    private static void wallsWhereNothingIs() {
        Stepscout x = new Stepscout();
        x.dock(9);
        Check.is("no dock there any more", x.wall(0, true), 1);
        x.wall(0, false);
        x.robot(2, -1);
        x.dock(10);
        Check.fails("a robot alone", IllegalStateException.class, x, () -> x.wall(9, true));
        x.carry(0, 10);
        Check.is("nothing is there any more", x.wall(9, true), 1);
        x.wall(9, false);
        x.carry(0, 9);
        x.step(0, 2);
        Check.is("walked away", x.wall(9, true), 1);
        Check.fails("walked there", IllegalStateException.class, x, () -> x.wall(17, true));
        x.bin(20, 0, 0);
        Check.fails("an empty bin", IllegalStateException.class, x, () -> x.wall(20, true));
        Check.fails("the dock", IllegalStateException.class, x, () -> x.wall(10, true));
    }

    /** "Puts the DOCK somewhere (also if it was there; no ROBOT is moved; .. SUMS stay)". */
    private static void theDockWhereItWas() {
        Stepscout x = new Stepscout();
        x.robot(2, -1);
        x.step(0, 1);
        x.carry(0, 0);
        x.charge(0);
        Check.is("known", x.possible(0), 1L);
        Check.is("where it was", x.dock(0), 0);
        Check.is("all is possible", x.possible(0), -1L);
        Check.is("not moved", x.ofRobot(0, 0), 0);
        x.step(0, 1);
        Check.is("where it was", x.dock(63), 0);
        Check.is("not moved", x.ofRobot(0, 0), 1);
        Check.is("column", x.ofRobot(0, 2), 1);
        Check.is("row", x.ofRobot(0, 3), 0);
        Check.is("way by the sum", x.way(0), "rrrrrrddddddd");
        Check.is("sand under the dock", x.ground(63, true, 1), 0);
        Check.is("need of the dock", x.ofPlace(63, 3), 0);
        Check.is("where it was", x.dock(0), 63);
    }

    public static void main(String[] arguments) {
        theFirstAndTheLastPlace();
        rowsOfEight();
        theYardEnds();
        wallsBlock();
        aWallFromAllSides();
        aYardFullOfWalls();
        aYardFullOfSand();
        allMarks();
        wallsWhereNothingIs();
        theDockWhereItWas();
        Check.end("YardEdgesTest");
    }
}
