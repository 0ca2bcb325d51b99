import java.util.ArrayList;
import java.util.List;

/**
 * Each exception that the document names: that it is thrown, that of several the one named first is
 * thrown, and that the call changes nothing. Each refused call is made on an object whose twin does not
 * get it; all that can be asked of the two, and how they live on, has to be the same.
 */
public final class RefusalTest {
    private static final Class<IndexOutOfBoundsException> INDEX = IndexOutOfBoundsException.class;
    private static final Class<IllegalArgumentException> ARGUMENT = IllegalArgumentException.class;
    private static final Class<IllegalStateException> STATE = IllegalStateException.class;
    private static final int LEAST = Integer.MIN_VALUE;
    private static final int GREATEST = Integer.MAX_VALUE;
    private static final int UP = 0;
    private static final int RIGHT = 1;
    private static final int DOWN = 2;
    private static final int LEFT = 3;
    private static final int PARTS = 4;

    private static final int[] NO_PLACES = {-1, 64, LEAST, GREATEST};
    private static final int[] NO_SIDES = {-1, 4, LEAST, GREATEST};
    private static final int[] NO_MARKS = {-1, 4, LEAST, GREATEST};
    private static final int[] NO_LOADS = {-1, 51, LEAST, GREATEST};
    private static final int[] NO_RATES = {-1, 10, LEAST, GREATEST};
    private static final int[] NO_EVERYS = {1, 10, 0, -1, LEAST, GREATEST};
    private static final int[] NO_MINUTES = {0, 201, -1, LEAST, GREATEST};
    private static final int[] NO_ROWS = {-1, 8, LEAST, GREATEST};

    interface Run {
        void on(Stepscout x);
    }

    interface Call {
        Object on(Stepscout x);
    }

    private static final class Yard {
        final String name;
        final Run ahead;
        final List<List<String>> untouched = new ArrayList<>();

        Yard(String name, Run ahead) {
            this.name = name;
            this.ahead = ahead;
            for (int part = 0; part < PARTS; part++) {
                untouched.add(allAnswers(made(), part));
            }
        }

        Stepscout made() {
            Stepscout x = new Stepscout();
            ahead.on(x);
            return x;
        }

        void refuses(String call, Class<? extends RuntimeException> due, Call asked) {
            for (int part = 0; part < PARTS; part++) {
                Stepscout x = made();
                String what = name + ": " + call;
                Check.is(what, answer(asked, x), "throws " + due.getSimpleName());
                Check.is(what + ", what is told then", allAnswers(x, part), untouched.get(part));
            }
        }
    }

    private static String answer(Call call, Stepscout x) {
        try {
            return String.valueOf(call.on(x));
        } catch (RuntimeException e) {
            return "throws " + e.getClass().getSimpleName();
        }
    }

    // ---- what can be told of an object; in parts, as an object has 512 calls

    private static List<String> allAnswers(Stepscout x, int part) {
        List<String> lines = new ArrayList<>();
        switch (part) {
            case 0:
                tellYard(lines, x);
                break;
            case 1:
                tellPlaces(lines, x, 0, 3);
                break;
            case 2:
                tellPlaces(lines, x, 4, 6);
                break;
            default:
                liveOn(lines, x);
                tellYard(lines, x);
                break;
        }
        return lines;
    }

    private static void tell(List<String> lines, String name, Stepscout x, Call call) {
        lines.add(name + " = " + answer(call, x));
    }

    private static void tellYard(List<String> lines, Stepscout x) {
        for (int i = 0; i <= 12; i++) {
            int what = i;
            tell(lines, "yard " + what, x, y -> y.yard(what));
        }
        for (int robot = 0; robot < x.yard(4); robot++) {
            tellRobot(lines, x, robot);
        }
        for (int bin = 0; bin < x.yard(5); bin++) {
            tell(lines, "bin " + bin, x, binOf(bin));
        }
        tell(lines, "sound", x, y -> y.isSound());
        tell(lines, "digest", x, y -> y.digest());
    }

    private static Call binOf(int bin) {
        return y -> y.ofBin(bin, 0) + " " + y.ofBin(bin, 1) + " " + y.ofBin(bin, 2);
    }

    private static void tellRobot(List<String> lines, Stepscout x, int robot) {
        for (int i = 0; i <= 12; i++) {
            int what = i;
            tell(lines, "robot " + robot + " " + what, x, y -> y.ofRobot(robot, what));
        }
        tell(lines, "possible " + robot, x, y -> y.possible(robot));
        tell(lines, "way " + robot, x, y -> y.way(robot));
        tell(lines, "sure " + robot, x, y -> y.sure(robot));
        tell(lines, "lookWorst " + robot, x, y -> y.lookWorst(robot));
        for (int i = 0; i < 8; i++) {
            int row = i;
            tell(lines, "row " + robot + " " + row, x, y -> y.row(row, robot));
            tell(lines, "after " + robot + " " + row, x, y -> y.after(robot, row / 2, row % 2 == 0));
        }
    }

    private static void tellPlaces(List<String> lines, Stepscout x, int first, int last) {
        for (int i = 0; i < 64; i++) {
            for (int j = first; j <= last; j++) {
                int place = i;
                int what = j;
                tell(lines, "place " + place + " " + what, x, y -> y.ofPlace(place, what));
            }
        }
    }

    /** What is not told can show later: the BLOCKS, the slips that are thought of, RATES, how many there are. */
    private static void liveOn(List<String> lines, Stepscout x) {
        for (int i = 0; i < 5; i++) {
            int side = i % 2 == 0 ? LEFT : RIGHT;
            for (int r = 0; r < x.yard(4); r++) {
                int robot = r;
                tell(lines, "later step", x, y -> y.step(robot, side));
                tell(lines, "later possible", x, y -> y.possible(robot));
            }
        }
        tell(lines, "later rest", x, y -> y.rest(20));
        tell(lines, "later bin", x, y -> y.bin(50, 1, 1));
        tell(lines, "later robot", x, y -> y.robot(9, -1));
        for (int r = 0; r < x.yard(4); r++) {
            int robot = r;
            tell(lines, "later take", x, y -> y.take(robot));
            tell(lines, "later bring", x, y -> y.bring(robot));
            tell(lines, "later charge", x, y -> y.charge(robot));
            tell(lines, "later step", x, y -> y.step(robot, UP));
            tell(lines, "later home", x, y -> y.home(robot));
        }
    }

    // ---- yards

    /**
     * The ROBOT 0 has slipped at 10 (by the DOCK at 9) and is in the midst of a BLOCK, the ROBOT 1 has
     * slipped at the DOCK, where a BIN is empty; 18 and 63 are WALLS.
     */
    private static void lived(Stepscout x) {
        x.dock(9);
        x.wall(18, true);
        x.wall(63, true);
        x.ground(9, true, 1);
        x.ground(10, true, 2);
        x.ground(17, true, 0);
        x.robot(3, 1);
        x.robot(9, 0);
        x.bin(12, 50, 9);
        x.bin(9, 4, 0);
        x.bin(20, 3, 2);
        x.step(1, RIGHT);
        x.step(0, RIGHT);
        x.step(0, RIGHT);
        x.take(1);
        x.rest(3);
    }

    private static void full(Stepscout x) {
        lived(x);
        x.robot(2, -1);
        x.bin(30, 7, 3);
    }

    private static void dark(Stepscout x) {
        full(x);
        x.rest(200);
        x.rest(200);
        x.rest(200);
        x.rest(720 - x.yard(0));
    }

    /** The ROBOT 0 bumps at the WALL below till its BATTERY is empty. */
    private static void tired(Stepscout x) {
        full(x);
        for (int i = 0; i < 48; i++) {
            x.step(0, DOWN);
        }
    }

    private static int[] noRobots(int count) {
        return count == 0 ? new int[] {-1, 0, 1, LEAST, GREATEST} : new int[] {-1, count, count + 1, LEAST, GREATEST};
    }

    // ---- what is refused in each of them

    private static void placesAreRefused(Yard yard) {
        for (int place : NO_PLACES) {
            yard.refuses("wall(" + place + ", true)", INDEX, x -> x.wall(place, true));
            yard.refuses("wall(" + place + ", false)", INDEX, x -> x.wall(place, false));
            yard.refuses("ground(" + place + ")", INDEX, x -> x.ground(place, true, 3));
            yard.refuses("dock(" + place + ")", INDEX, x -> x.dock(place));
            yard.refuses("bin(" + place + ")", INDEX, x -> x.bin(place, 1, 1));
            yard.refuses("ofPlace(" + place + ")", INDEX, x -> x.ofPlace(place, 0));
            for (int mark : NO_MARKS) {
                yard.refuses("ground(" + place + ", " + mark + ")", INDEX, x -> x.ground(place, false, mark));
            }
            yard.refuses("bin(" + place + ", -1)", INDEX, x -> x.bin(place, -1, 1));
            yard.refuses("bin(" + place + ", 51)", INDEX, x -> x.bin(place, 51, 1));
            yard.refuses("bin(" + place + ", rate -1)", INDEX, x -> x.bin(place, 1, -1));
            yard.refuses("bin(" + place + ", rate 10)", INDEX, x -> x.bin(place, 1, 10));
            yard.refuses("ofPlace(" + place + ", -1)", INDEX, x -> x.ofPlace(place, -1));
            yard.refuses("ofPlace(" + place + ", 7)", INDEX, x -> x.ofPlace(place, 7));
        }
    }

    private static void robotsAreRefused(Yard yard, int count) {
        for (int robot : noRobots(count)) {
            yard.refuses("step(" + robot + ")", INDEX, x -> x.step(robot, UP));
            yard.refuses("step(" + robot + ", -1)", INDEX, x -> x.step(robot, -1));
            yard.refuses("step(" + robot + ", 4)", INDEX, x -> x.step(robot, 4));
            yard.refuses("look(" + robot + ")", INDEX, x -> x.look(robot));
            yard.refuses("carry(" + robot + ")", INDEX, x -> x.carry(robot, 0));
            yard.refuses("carry(" + robot + ", -1)", INDEX, x -> x.carry(robot, -1));
            yard.refuses("carry(" + robot + ", 64)", INDEX, x -> x.carry(robot, 64));
            yard.refuses("carry(" + robot + ", a wall)", INDEX, x -> x.carry(robot, 63));
            yard.refuses("charge(" + robot + ")", INDEX, x -> x.charge(robot));
            yard.refuses("take(" + robot + ")", INDEX, x -> x.take(robot));
            yard.refuses("bring(" + robot + ")", INDEX, x -> x.bring(robot));
            yard.refuses("home(" + robot + ")", INDEX, x -> x.home(robot));
            yard.refuses("ofRobot(" + robot + ")", INDEX, x -> x.ofRobot(robot, 0));
            yard.refuses("ofRobot(" + robot + ", -1)", INDEX, x -> x.ofRobot(robot, -1));
            yard.refuses("ofRobot(" + robot + ", 13)", INDEX, x -> x.ofRobot(robot, 13));
            yard.refuses("possible(" + robot + ")", INDEX, x -> x.possible(robot));
            yard.refuses("way(" + robot + ")", INDEX, x -> x.way(robot));
            yard.refuses("row(0, " + robot + ")", INDEX, x -> x.row(0, robot));
            yard.refuses("row(8, " + robot + ")", INDEX, x -> x.row(8, robot));
            yard.refuses("after(" + robot + ")", INDEX, x -> x.after(robot, UP, true));
            yard.refuses("after(" + robot + ", -1)", INDEX, x -> x.after(robot, -1, true));
            yard.refuses("after(" + robot + ", 4)", INDEX, x -> x.after(robot, 4, false));
            yard.refuses("lookWorst(" + robot + ")", INDEX, x -> x.lookWorst(robot));
            yard.refuses("sure(" + robot + ")", INDEX, x -> x.sure(robot));
        }
    }

    private static void binsAreRefused(Yard yard, int count) {
        for (int bin : noRobots(count)) {
            yard.refuses("ofBin(" + bin + ")", INDEX, x -> x.ofBin(bin, 0));
            yard.refuses("ofBin(" + bin + ", -1)", INDEX, x -> x.ofBin(bin, -1));
            yard.refuses("ofBin(" + bin + ", 3)", INDEX, x -> x.ofBin(bin, 3));
        }
    }

    private static void rowsAreRefused(Yard yard) {
        for (int row : NO_ROWS) {
            yard.refuses("row(" + row + ", 0)", INDEX, x -> x.row(row, 0));
        }
    }

    /** Also in a full yard, in the DARK and onto a WALL: all that is named behind it. */
    private static void numbersAreRefused(Yard yard) {
        for (int mark : NO_MARKS) {
            yard.refuses("mark " + mark, ARGUMENT, x -> x.ground(10, false, mark));
        }
        for (int loads : NO_LOADS) {
            yard.refuses("loads " + loads, ARGUMENT, x -> x.bin(1, loads, 9));
            yard.refuses("loads " + loads + " on 63", ARGUMENT, x -> x.bin(63, loads, 0));
        }
        for (int rate : NO_RATES) {
            yard.refuses("rate " + rate, ARGUMENT, x -> x.bin(1, 50, rate));
            yard.refuses("rate " + rate + " on 63", ARGUMENT, x -> x.bin(63, 0, rate));
        }
        for (int every : NO_EVERYS) {
            yard.refuses("every " + every + ", slip -1", ARGUMENT, x -> x.robot(every, -1));
            yard.refuses("every " + every + ", slip 0", ARGUMENT, x -> x.robot(every, 0));
        }
        for (int every = 2; every <= 9; every++) {
            int e = every;
            for (int slip : new int[] {-2, every, every + 1, LEAST, GREATEST}) {
                yard.refuses("every " + every + ", slip " + slip, ARGUMENT, x -> x.robot(e, slip));
            }
        }
        for (int minutes : NO_MINUTES) {
            yard.refuses("rest(" + minutes + ")", ARGUMENT, x -> x.rest(minutes));
        }
        for (int what : new int[] {-1, 13, LEAST, GREATEST}) {
            yard.refuses("yard(" + what + ")", ARGUMENT, x -> x.yard(what));
        }
        for (int what : new int[] {-1, 7, LEAST, GREATEST}) {
            yard.refuses("ofPlace(10, " + what + ")", ARGUMENT, x -> x.ofPlace(10, what));
        }
    }

    private static void numbersOfRobotsAreRefused(Yard yard) {
        for (int side : NO_SIDES) {
            yard.refuses("step(0, " + side + ")", ARGUMENT, x -> x.step(0, side));
            yard.refuses("after(0, " + side + ", true)", ARGUMENT, x -> x.after(0, side, true));
            yard.refuses("after(0, " + side + ", false)", ARGUMENT, x -> x.after(0, side, false));
        }
        for (int what : new int[] {-1, 13, LEAST, GREATEST}) {
            yard.refuses("ofRobot(0, " + what + ")", ARGUMENT, x -> x.ofRobot(0, what));
        }
        for (int what : new int[] {-1, 3, LEAST, GREATEST}) {
            yard.refuses("ofBin(0, " + what + ")", ARGUMENT, x -> x.ofBin(0, what));
        }
        for (int place : NO_PLACES) {
            yard.refuses("carry(0, " + place + ")", INDEX, x -> x.carry(0, place));
        }
    }

    private static void wallsAndLoadsAreRefused(Yard yard) {
        for (int place : new int[] {9, 10, 12, 20}) {
            yard.refuses("wall(" + place + ", true)", STATE, x -> x.wall(place, true));
            yard.refuses("wall(" + place + ", false)", STATE, x -> x.wall(place, false));
        }
        for (int wall : new int[] {18, 63}) {
            yard.refuses("dock(" + wall + ")", STATE, x -> x.dock(wall));
            yard.refuses("bin(" + wall + ")", STATE, x -> x.bin(wall, 1, 1));
            yard.refuses("carry(0, " + wall + ")", STATE, x -> x.carry(0, wall));
        }
        yard.refuses("charge away from the dock", STATE, x -> x.charge(0));
        yard.refuses("bring away from the dock", STATE, x -> x.bring(0));
        yard.refuses("take without a bin", STATE, x -> x.take(0));
        yard.refuses("take of an empty bin", STATE, x -> x.take(1));
    }

    private static void moreIsRefused(Yard yard) {
        yard.refuses("wall at the last bin", STATE, x -> x.wall(30, true));
        yard.refuses("a fifth bin", STATE, x -> x.bin(1, 1, 1));
        yard.refuses("a fifth bin where one is", STATE, x -> x.bin(30, 50, 9));
        yard.refuses("a fifth bin on a wall", STATE, x -> x.bin(63, 0, 0));
        yard.refuses("a fourth robot", STATE, x -> x.robot(2, 1));
        yard.refuses("a fourth robot without slips", STATE, x -> x.robot(9, -1));
    }

    private static void allOf(Yard yard, int robots, int bins) {
        placesAreRefused(yard);
        robotsAreRefused(yard, robots);
        binsAreRefused(yard, bins);
        rowsAreRefused(yard);
        numbersAreRefused(yard);
        numbersOfRobotsAreRefused(yard);
        wallsAndLoadsAreRefused(yard);
    }

    private static void inAnEmptyYard() {
        Yard yard = new Yard("empty", x -> { });
        placesAreRefused(yard);
        robotsAreRefused(yard, 0);
        binsAreRefused(yard, 0);
        rowsAreRefused(yard);
        numbersAreRefused(yard);
        yard.refuses("wall at the dock", STATE, x -> x.wall(0, true));
        yard.refuses("no wall at the dock", STATE, x -> x.wall(0, false));
    }

    private static void inAFullYard() {
        Yard yard = new Yard("full", RefusalTest::full);
        allOf(yard, 3, 4);
        moreIsRefused(yard);
    }

    private static void inTheDark() {
        Yard yard = new Yard("dark", RefusalTest::dark);
        allOf(yard, 3, 4);
        moreIsRefused(yard);
        for (int i = 0; i < 4; i++) {
            int side = i;
            yard.refuses("step to " + side, STATE, x -> x.step(0, side));
            yard.refuses("step of the last to " + side, STATE, x -> x.step(2, side));
        }
        yard.refuses("rest(1)", STATE, x -> x.rest(1));
        yard.refuses("rest(200)", STATE, x -> x.rest(200));
    }

    private static void withoutBattery() {
        Yard yard = new Yard("tired", RefusalTest::tired);
        allOf(yard, 3, 4);
        for (int i = 0; i < 4; i++) {
            int side = i;
            yard.refuses("step to " + side, STATE, x -> x.step(0, side));
        }
    }

    /** Where there is no WAY home() is refused, whether it could go or not. */
    private static void withoutAWay() {
        Yard outside = new Yard("outside", x -> {
            lived(x);
            x.carry(0, 62);
            for (int i = 0; i < 3; i++) {
                x.step(0, UP);
            }
        });
        outside.refuses("home(0)", STATE, x -> x.home(0));
        outside.refuses("home(2)", INDEX, x -> x.home(2));
        Yard wall = new Yard("a wall", x -> {
            lived(x);
            x.wall(11, true);
        });
        wall.refuses("home(0)", STATE, x -> x.home(0));
        Yard noWay = new Yard("no way", x -> {
            lived(x);
            for (int place : new int[] {3, 19}) {
                x.wall(place, true);
            }
            x.carry(0, 1);
            x.wall(10, true);
            x.wall(4, true);
            x.wall(28, true);
            x.wall(13, true);
            x.wall(21, true);
        });
        Check.is("the sum is open", noWay.made().ofPlace(11, 0), 0);
        noWay.refuses("home(0)", STATE, x -> x.home(0));
        Yard darkness = new Yard("no way in the dark", x -> {
            dark(x);
            x.wall(11, true);
        });
        darkness.refuses("home(0)", STATE, x -> x.home(0));
        Yard battery = new Yard("no way and no battery", x -> {
            tired(x);
            x.wall(11, true);
        });
        battery.refuses("home(0)", STATE, x -> x.home(0));
    }

    private static void theYardsAreAsTold() {
        Stepscout x = new Yard("lived in", RefusalTest::lived).made();
        Check.is("slipped at 10", x.ofRobot(0, 0) * 10 + x.ofRobot(0, 7), 101);
        Check.is("slipped at the dock", x.ofRobot(1, 0) * 10 + x.ofRobot(1, 7), 91);
        Check.is("an empty bin at the dock", x.ofPlace(9, 6) * 10 + x.ofBin(1, 1), 10);
        Check.is("no battery", new Yard("tired", RefusalTest::tired).made().ofRobot(0, 1), 0);
        Check.is("just dark", new Yard("dark", RefusalTest::dark).made().yard(0), 720);
    }

    public static void main(String[] arguments) {
        theYardsAreAsTold();
        inAnEmptyYard();
        allOf(new Yard("lived in", RefusalTest::lived), 2, 3);
        inAFullYard();
        inTheDark();
        withoutBattery();
        withoutAWay();
        Check.end("RefusalTest");
    }
}
