/**
 * Robots that come home by counting steps. The words in capitals are those of the document, which
 * says what each call promises. A set of PLACES is a long: the PLACE p is the bit p.
 */
public final class Stepscout {

    private static final int NONE = -1;
    private static final int PLACES = 64;
    private static final int ROW = 8;
    private static final int SIDES = 4;
    private static final int LOOKS = 64;
    private static final int DARK = 720;
    private static final int FILLING = 10;
    private static final int LONGEST_REST = 200;
    private static final int MOST_ROBOTS = 3;
    private static final int MOST_BINS = 4;
    private static final int FULL_BATTERY = 100;
    private static final int FULL_BIN = 50;
    private static final int FULL_ROBOT = 5;
    private static final int LONGEST_SURE = 6;
    private static final int QUESTIONS = 13;
    private static final String SIGNS = "urdl";

    private static final long TOP = 0x00000000000000FFL;
    private static final long RIGHT = 0x8080808080808080L;
    private static final long BOTTOM = 0xFF00000000000000L;
    private static final long LEFT = 0x0101010101010101L;

    private final Grounds grounds;
    private final Robot[] robots;
    private final Bin[] bins;
    private final Route route;
    private final int[] alike;
    private int robotCount;
    private int binCount;
    private int minute;
    private int homeLoads;
    private int spoiltLoads;
    private int everLoads;

    public Stepscout() {
        grounds = new Grounds();
        robots = new Robot[MOST_ROBOTS];
        for (int i = 0; i < MOST_ROBOTS; i++) {
            robots[i] = new Robot();
        }
        bins = new Bin[MOST_BINS];
        for (int i = 0; i < MOST_BINS; i++) {
            bins[i] = new Bin();
        }
        route = new Route();
        alike = new int[LOOKS];
    }

    // ---- the yard

    public int wall(int place, boolean is) throws IndexOutOfBoundsException, IllegalStateException {
        refuseNoPlace(place);
        if (place == grounds.dock || robotsAt(place) > 0 || binAt(place, 0) != NONE) {
            throw new IllegalStateException("the dock, a robot or a bin is there");
        }
        grounds.setWall(place, is);
        doubtChangedYard();
        return Long.bitCount(grounds.walls);
    }

    public int ground(int place, boolean isSand, int mark)
            throws IndexOutOfBoundsException, IllegalArgumentException {
        refuseNoPlace(place);
        if (mark < 0 || mark > 3) {
            throw new IllegalArgumentException("a mark is 0 to 3");
        }
        int before = grounds.marks[place];
        grounds.setGround(place, isSand, mark);
        doubtChangedYard();
        return before;
    }

    public int dock(int place) throws IndexOutOfBoundsException, IllegalStateException {
        refuseNoPlace(place);
        refuseWall(place);
        int before = grounds.dock;
        grounds.setDock(place);
        for (int i = 0; i < robotCount; i++) {
            robots[i].believe(grounds.open());
        }
        return before;
    }

    public int bin(int place, int loads, int rate)
            throws IndexOutOfBoundsException, IllegalArgumentException, IllegalStateException {
        refuseNoPlace(place);
        if (loads < 0 || loads > FULL_BIN || rate < 0 || rate > 9) {
            throw new IllegalArgumentException("loads are 0 to 50, a rate is 0 to 9");
        }
        if (binCount >= MOST_BINS) {
            throw new IllegalStateException("there are 4 bins");
        }
        refuseWall(place);
        bins[binCount].putUp(place, loads, rate);
        everLoads += loads;
        binCount++;
        return binCount - 1;
    }

    // ---- robots

    public int robot(int every, int slip) throws IllegalArgumentException, IllegalStateException {
        if (every < 2 || every > 9 || slip < NONE || slip >= every) {
            throw new IllegalArgumentException("every is 2 to 9, slip -1 to every less 1");
        }
        if (robotCount >= MOST_ROBOTS) {
            throw new IllegalStateException("there are 3 robots");
        }
        robots[robotCount].come(every, slip, grounds.dock);
        robotCount++;
        return robotCount - 1;
    }

    public boolean step(int robot, int side)
            throws IndexOutOfBoundsException, IllegalArgumentException, IllegalStateException {
        Robot r = robotAt(robot);
        refuseNoSide(side);
        if (!canGo(r)) {
            throw new IllegalStateException("it has no battery, or it is dark");
        }
        return go(r, side);
    }

    public int look(int robot) throws IndexOutOfBoundsException {
        Robot r = robotAt(robot);
        int shown = grounds.shown(r.place);
        r.rememberOnly(grounds.placesThatShow(shown));
        return shown;
    }

    public int carry(int robot, int place) throws IndexOutOfBoundsException, IllegalStateException {
        Robot r = robotAt(robot);
        refuseNoPlace(place);
        refuseWall(place);
        int before = r.place;
        r.place = place;
        r.believe(grounds.open());
        return before;
    }

    public int charge(int robot) throws IndexOutOfBoundsException, IllegalStateException {
        Robot r = robotAt(robot);
        refuseAway(r);
        int before = r.battery;
        r.startAt(grounds.dock);
        return before;
    }

    public int take(int robot) throws IndexOutOfBoundsException, IllegalStateException {
        Robot r = robotAt(robot);
        int number = binAt(r.place, 1);
        if (number == NONE) {
            throw new IllegalStateException("there is no bin with loads");
        }
        int taken = Math.min(bins[number].loads, FULL_ROBOT - r.carried);
        bins[number].loads -= taken;
        r.carried += taken;
        return taken;
    }

    public int bring(int robot) throws IndexOutOfBoundsException, IllegalStateException {
        Robot r = robotAt(robot);
        refuseAway(r);
        int brought = r.carried;
        r.carried = 0;
        homeLoads += brought;
        return brought;
    }

    public boolean home(int robot) throws IndexOutOfBoundsException, IllegalStateException {
        Robot r = robotAt(robot);
        findWay(r);
        if (route.length == NONE) {
            throw new IllegalStateException("there is no way");
        }
        boolean bumped = false;
        for (int at = 0; at < route.length && !bumped && canGo(r); at++) {
            bumped = go(r, route.sides[at]);
        }
        return r.place == grounds.dock;
    }

    public int rest(int minutes) throws IllegalArgumentException, IllegalStateException {
        if (minutes < 1 || minutes > LONGEST_REST) {
            throw new IllegalArgumentException("minutes are 1 to 200");
        }
        if (isDark()) {
            throw new IllegalStateException("it is dark");
        }
        for (int i = 0; i < minutes; i++) {
            passMinute();
        }
        return minute;
    }

    // ---- what is asked

    public int ofRobot(int robot, int what) throws IndexOutOfBoundsException, IllegalArgumentException {
        Robot r = robotAt(robot);
        switch (what) {
            case 0: return r.place;
            case 1: return r.battery;
            case 2: return r.sumColumn;
            case 3: return r.sumRow;
            case 4: return r.carried;
            case 5: return r.steps;
            case 6: return r.bumps;
            case 7: return r.slips;
            case 8: return Long.bitCount(r.mayBeAt());
            case 9: return one(contains(r.mayBeAt(), r.sumPlace()));
            case 10: return grounds.needs.of(r.mayBeAt());
            case 11: return one(mustTurn(r));
            case 12: return lengthOfWay(r);
            default: throw new IllegalArgumentException("what is 0 to 12");
        }
    }

    public long possible(int robot) throws IndexOutOfBoundsException {
        return robotAt(robot).mayBeAt();
    }

    public int ofPlace(int place, int what) throws IndexOutOfBoundsException, IllegalArgumentException {
        refuseNoPlace(place);
        switch (what) {
            case 0: return one(contains(grounds.walls, place));
            case 1: return one(contains(grounds.sand, place));
            case 2: return grounds.marks[place];
            case 3: return grounds.needs.of(bit(place));
            case 4: return grounds.blockedSides(place);
            case 5: return robotsAt(place);
            case 6: return binAt(place, 0);
            default: throw new IllegalArgumentException("what is 0 to 6");
        }
    }

    public int ofBin(int bin, int what) throws IndexOutOfBoundsException, IllegalArgumentException {
        if (bin < 0 || bin >= binCount) {
            throw new IndexOutOfBoundsException("no such bin");
        }
        switch (what) {
            case 0: return bins[bin].place;
            case 1: return bins[bin].loads;
            case 2: return bins[bin].rate;
            default: throw new IllegalArgumentException("what is 0 to 2");
        }
    }

    public int yard(int what) throws IllegalArgumentException {
        switch (what) {
            case 0: return minute;
            case 1: return grounds.dock;
            case 2: return Long.bitCount(grounds.walls);
            case 3: return Long.bitCount(grounds.sand);
            case 4: return robotCount;
            case 5: return binCount;
            case 6: return loadsInBins();
            case 7: return loadsOnRobots();
            case 8: return homeLoads;
            case 9: return spoiltLoads;
            case 10: return everLoads;
            case 11: return one(isDark());
            case 12: return robotCount - robotsAt(grounds.dock);
            default: throw new IllegalArgumentException("what is 0 to 12");
        }
    }

    public String way(int robot) throws IndexOutOfBoundsException {
        findWay(robotAt(robot));
        return route.asText();
    }

    public String row(int row, int robot) throws IndexOutOfBoundsException {
        if (row < 0 || row >= ROW) {
            throw new IndexOutOfBoundsException("no such row");
        }
        Robot r = robotAt(robot);
        StringBuilder signs = new StringBuilder();
        for (int place = row * ROW; place < row * ROW + ROW; place++) {
            signs.append(signOf(place, r));
        }
        return signs.toString();
    }

    // ---- what would be

    public int after(int robot, int side, boolean isBump)
            throws IndexOutOfBoundsException, IllegalArgumentException {
        Robot r = robotAt(robot);
        refuseNoSide(side);
        return Long.bitCount(r.cleanBehind(grounds, side, isBump) | r.slippedBehind(grounds, side, isBump));
    }

    public int lookWorst(int robot) throws IndexOutOfBoundsException {
        long set = robotAt(robot).mayBeAt();
        for (int i = 0; i < LOOKS; i++) {
            alike[i] = 0;
        }
        int worst = 0;
        for (int place = 0; place < PLACES; place++) {
            if (contains(set, place)) {
                int shown = grounds.shown(place);
                alike[shown]++;
                worst = Math.max(worst, alike[shown]);
            }
        }
        return worst;
    }

    public String sure(int robot) throws IndexOutOfBoundsException {
        findSure(robotAt(robot));
        return route.asText();
    }

    public boolean isSound() {
        if (loadsInBins() + loadsOnRobots() + homeLoads + spoiltLoads != everLoads) {
            return false;
        }
        for (int i = 0; i < robotCount; i++) {
            if (!isSoundFor(robots[i])) {
                return false;
            }
        }
        return true;
    }

    public long digest() {
        long d = 5147;
        for (int what = 0; what < QUESTIONS; what++) {
            d = d * 31 + yard(what);
        }
        for (int i = 0; i < robotCount; i++) {
            d = digestWithRobot(d, i);
        }
        for (int i = 0; i < binCount; i++) {
            d = d * 31 + bins[i].place;
            d = d * 31 + bins[i].loads;
            d = d * 31 + bins[i].rate;
        }
        for (int place = 0; place < PLACES; place++) {
            d = d * 31 + grounds.needs.of(bit(place));
        }
        return d * 31 + one(isSound());
    }

    private long digestWithRobot(long ahead, int robot) {
        long d = ahead;
        for (int what = 0; what < QUESTIONS; what++) {
            d = d * 31 + ofRobot(robot, what);
        }
        d = d * 31 + possible(robot);
        d = d * 31 + lookWorst(robot);
        for (int side = 0; side < SIDES; side++) {
            d = d * 31 + after(robot, side, true);
            d = d * 31 + after(robot, side, false);
        }
        return d * 31 + sure(robot).length();
    }

    // ---- what is refused

    private Robot robotAt(int robot) {
        if (robot < 0 || robot >= robotCount) {
            throw new IndexOutOfBoundsException("no such robot");
        }
        return robots[robot];
    }

    private void refuseNoPlace(int place) {
        if (place < 0 || place >= PLACES) {
            throw new IndexOutOfBoundsException("no such place");
        }
    }

    private void refuseNoSide(int side) {
        if (side < 0 || side >= SIDES) {
            throw new IllegalArgumentException("a side is 0 to 3");
        }
    }

    private void refuseWall(int place) {
        if (contains(grounds.walls, place)) {
            throw new IllegalStateException("a wall is there");
        }
    }

    private void refuseAway(Robot r) {
        if (r.place != grounds.dock) {
            throw new IllegalStateException("it is not at the dock");
        }
    }

    // ---- time, steps and loads

    private boolean isDark() {
        return minute >= DARK;
    }

    private void passMinute() {
        minute++;
        if (minute % FILLING != 0) {
            return;
        }
        for (int i = 0; i < binCount; i++) {
            everLoads += bins[i].rate;
            spoiltLoads += bins[i].fill();
        }
    }

    private boolean canGo(Robot r) {
        return r.battery > 0 && !isDark();
    }

    private boolean go(Robot r, int side) {
        boolean bump = contains(grounds.blocked[side], r.place);
        boolean onSand = contains(grounds.sand, r.place);
        r.feel(grounds, side, bump);
        r.battery = Math.max(0, r.battery - (onSand ? 2 : 1));
        if (bump) {
            r.bumps++;
        } else {
            r.countStep(side);
            if (onSand && r.inBlock == r.slip) {
                r.slips++;
            } else {
                r.place = neighbour(r.place, side);
            }
        }
        r.endStep();
        passMinute();
        return bump;
    }

    private void doubtChangedYard() {
        for (int i = 0; i < robotCount; i++) {
            boolean isDocked = robots[i].place == grounds.dock;
            robots[i].believe(isDocked ? bit(grounds.dock) : grounds.open());
        }
    }

    private int robotsAt(int place) {
        int count = 0;
        for (int i = 0; i < robotCount; i++) {
            if (robots[i].place == place) {
                count++;
            }
        }
        return count;
    }

    /** The BIN with the smallest number there that has so many LOADS at least, or NONE. */
    private int binAt(int place, int leastLoads) {
        for (int i = 0; i < binCount; i++) {
            if (bins[i].place == place && bins[i].loads >= leastLoads) {
                return i;
            }
        }
        return NONE;
    }

    private int loadsInBins() {
        int sum = 0;
        for (int i = 0; i < binCount; i++) {
            sum += bins[i].loads;
        }
        return sum;
    }

    private int loadsOnRobots() {
        int sum = 0;
        for (int i = 0; i < robotCount; i++) {
            sum += robots[i].carried;
        }
        return sum;
    }

    private char signOf(int place, Robot r) {
        if (contains(grounds.walls, place)) {
            return '#';
        }
        if (place == r.place) {
            return 'o';
        }
        return contains(r.mayBeAt(), place) ? '?' : '.';
    }

    // ---- ways home

    private boolean mustTurn(Robot r) {
        int need = grounds.needs.of(r.mayBeAt());
        return need == NONE || need > r.battery - 2;
    }

    private int lengthOfWay(Robot r) {
        int place = r.sumPlace();
        return place == NONE ? NONE : grounds.walks.of(bit(place));
    }

    private void findWay(Robot r) {
        route.length = lengthOfWay(r);
        int place = r.sumPlace();
        for (int at = 0; at < route.length; at++) {
            int side = grounds.sideHome(place, route.length - at - 1);
            route.sides[at] = side;
            place = neighbour(place, side);
        }
    }

    private void findSure(Robot r) {
        for (int length = 0; length <= LONGEST_SURE; length++) {
            route.length = length;
            if (leadsHome(grounds, route, r.mayBeAt(), 0)) {
                return;
            }
        }
        route.length = NONE;
    }

    /** Whether a row leads home from the set of which the SIDES ahead of 'at' are walked already. */
    private static boolean leadsHome(Grounds grounds, Route route, long set, int at) {
        // a PLACE that is too far even by its own way can't be brought home together with others
        if (!grounds.walks.suffices(set, route.length - at)) {
            return false;
        }
        if (at >= route.length) {
            return true;
        }
        for (int side = 0; side < SIDES; side++) {
            if (leadsHome(grounds, route, grounds.walked(set, side), at + 1)) {
                route.sides[at] = side;
                return true;
            }
        }
        return false;
    }

    private boolean isSoundFor(Robot r) {
        if (!contains(r.mayBeAt(), r.place) || contains(grounds.walls, r.place)
                || (r.mayBeAt() & grounds.walls) != 0) {
            return false;
        }
        findSure(r);
        if (route.length == NONE) {
            return true;
        }
        long set = bit(r.place);
        for (int at = 0; at < route.length; at++) {
            set = grounds.walked(set, route.sides[at]);
        }
        return set == bit(grounds.dock);
    }

    // ---- PLACES and sets of them

    private static int one(boolean is) {
        return is ? 1 : 0;
    }

    private static long bit(int place) {
        return 1L << place;
    }

    private static boolean contains(long set, int place) {
        return place >= 0 && place < PLACES && (set & bit(place)) != 0;
    }

    private static int neighbour(int place, int side) {
        switch (side) {
            case 0: return place - ROW;
            case 1: return place + 1;
            case 2: return place + ROW;
            default: return place - 1;
        }
    }

    /** The PLACES that lie to that SIDE of those of the set; what would leave the yard is lost. */
    private static long moved(long set, int side) {
        switch (side) {
            case 0: return set >>> ROW;
            case 1: return (set & ~RIGHT) << 1;
            case 2: return set << ROW;
            default: return (set & ~LEFT) >>> 1;
        }
    }

    private static long beside(long set) {
        return moved(set, 0) | moved(set, 1) | moved(set, 2) | moved(set, 3);
    }

    /** What the yard is made of, and what follows from that alone. */
    private static final class Grounds {
        final int[] marks;
        final long[] blocked;
        final Costs walks;
        final Costs needs;
        long walls;
        long sand;
        int dock;

        Grounds() {
            marks = new int[PLACES];
            blocked = new long[SIDES];
            walks = new Costs(PLACES);
            needs = new Costs(2 * PLACES);
            survey();
        }

        void setWall(int place, boolean is) {
            walls = is ? walls | bit(place) : walls & ~bit(place);
            survey();
        }

        void setGround(int place, boolean isSand, int mark) {
            sand = isSand ? sand | bit(place) : sand & ~bit(place);
            marks[place] = mark;
            survey();
        }

        void setDock(int place) {
            dock = place;
            survey();
        }

        private void survey() {
            // the SIDE is BLOCKED from the PLACES that lie to the other side of a WALL
            blocked[0] = TOP | moved(walls, 2);
            blocked[1] = RIGHT | moved(walls, 3);
            blocked[2] = BOTTOM | moved(walls, 0);
            blocked[3] = LEFT | moved(walls, 1);
            walks.measure(bit(dock), open(), 0L);
            needs.measure(bit(dock), open(), sand);
        }

        long open() {
            return ~walls;
        }

        int blockedSides(int place) {
            int sides = 0;
            for (int side = 0; side < SIDES; side++) {
                if (contains(blocked[side], place)) {
                    sides |= 1 << side;
                }
            }
            return sides;
        }

        int shown(int place) {
            return marks[place] * 16 + blockedSides(place);
        }

        long placesThatShow(int shown) {
            long set = 0;
            for (int place = 0; place < PLACES; place++) {
                if (shown(place) == shown) {
                    set |= bit(place);
                }
            }
            return set;
        }

        /** Where one is behind a STEP without a slip. */
        long walked(long set, int side) {
            return (set & blocked[side]) | moved(set & ~blocked[side], side);
        }

        /** The smallest SIDE behind which so many STEPS bring one home; one of them does. */
        int sideHome(int place, int stepsLeft) {
            for (int side = 0; side < SIDES - 1; side++) {
                boolean isFree = !contains(blocked[side], place);
                if (isFree && walks.suffices(moved(bit(place), side), stepsLeft)) {
                    return side;
                }
            }
            return SIDES - 1;
        }
    }

    /** From which PLACES one comes to the DOCK with how much, if some cost 2 to leave and the others 1. */
    private static final class Costs {
        private final long[] enough;
        private int last;

        /** 'bound' is above what any way can cost, which enters each PLACE once. */
        Costs(int bound) {
            enough = new long[Math.max(1, bound)];
        }

        void measure(long dock, long open, long dear) {
            enough[0] = dock;
            last = 0;
            long now = dock;
            long before = 0L;
            // a dear PLACE can come along two later than its neighbour: so long it may stand still
            for (int cost = 1; cost <= last + 2 && cost < enough.length; cost++) {
                long reached = (beside(now) & ~dear) | (beside(before) & dear);
                before = now;
                now |= reached & open;
                enough[cost] = now;
                if (now != before) {
                    last = cost;
                }
            }
        }

        /** The least cost that suffices from each PLACE of the set, or NONE. */
        int of(long set) {
            for (int cost = 0; cost <= last; cost++) {
                if (suffices(set, cost)) {
                    return cost;
                }
            }
            return NONE;
        }

        boolean suffices(long set, int cost) {
            return cost >= 0 && (set & ~enough[Math.min(cost, last)]) == 0;
        }
    }

    /** A row of SIDES; it is used again for each that is found. */
    private static final class Route {
        final int[] sides;
        int length;

        Route() {
            sides = new int[PLACES];
            length = NONE;
        }

        String asText() {
            if (length == NONE) {
                return "none";
            }
            StringBuilder signs = new StringBuilder();
            for (int at = 0; at < length; at++) {
                signs.append(SIGNS.charAt(sides[at]));
            }
            return signs.toString();
        }
    }

    private static final class Robot {
        int every;
        int slip;
        int place;
        int battery;
        int sumColumn;
        int sumRow;
        int carried;
        int steps;
        int inBlock;
        int bumps;
        int slips;
        private long clean;
        private long slipped;

        Robot() {
            every = 2;
            slip = NONE;
        }

        void come(int newEvery, int newSlip, int dock) {
            every = newEvery;
            slip = newSlip;
            place = dock;
            startAt(dock);
        }

        void startAt(int dock) {
            battery = FULL_BATTERY;
            sumColumn = dock % ROW;
            sumRow = dock / ROW;
            believe(bit(dock));
        }

        void believe(long set) {
            clean = set;
            slipped = 0L;
        }

        void rememberOnly(long set) {
            clean &= set;
            slipped &= set;
        }

        long mayBeAt() {
            return clean | slipped;
        }

        void feel(Grounds grounds, int side, boolean bump) {
            long nowClean = cleanBehind(grounds, side, bump);
            slipped = slippedBehind(grounds, side, bump);
            clean = nowClean;
        }

        // the first STEP of a BLOCK: a slip of the last BLOCK does not count any more
        private long cleanAhead() {
            return inBlock == 0 ? clean | slipped : clean;
        }

        private long slippedAhead() {
            return inBlock == 0 ? 0L : slipped;
        }

        long cleanBehind(Grounds grounds, int side, boolean bump) {
            return behind(cleanAhead(), grounds.blocked[side], side, bump);
        }

        long slippedBehind(Grounds grounds, int side, boolean bump) {
            long blocked = grounds.blocked[side];
            long slipsNow = bump ? 0L : cleanAhead() & grounds.sand & ~blocked;
            return slipsNow | behind(slippedAhead(), blocked, side, bump);
        }

        private static long behind(long set, long blocked, int side, boolean bump) {
            return bump ? set & blocked : moved(set & ~blocked, side);
        }

        void countStep(int side) {
            switch (side) {
                case 0: sumRow--; break;
                case 1: sumColumn++; break;
                case 2: sumRow++; break;
                default: sumColumn--; break;
            }
        }

        void endStep() {
            steps++;
            inBlock = inBlock + 1 >= every ? 0 : inBlock + 1;
        }

        /** The PLACE that its SUM tells, or NONE outside of the yard. */
        int sumPlace() {
            boolean isInside = sumColumn >= 0 && sumColumn < ROW && sumRow >= 0 && sumRow < ROW;
            return isInside ? sumRow * ROW + sumColumn : NONE;
        }
    }

    private static final class Bin {
        int place;
        int loads;
        int rate;

        void putUp(int newPlace, int newLoads, int newRate) {
            place = newPlace;
            loads = newLoads;
            rate = newRate;
        }

        /** Lets RATE more come; returns how many of them are SPOILT. */
        int fill() {
            int all = loads + rate;
            loads = Math.min(all, FULL_BIN);
            return all - loads;
        }
    }
}
