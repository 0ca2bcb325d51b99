import java.util.ArrayList;
import java.util.Arrays;
import java.util.BitSet;
import java.util.HashSet;
import java.util.LinkedHashMap;
import java.util.List;
import java.util.Map;
import java.util.Set;
import java.util.TreeSet;

/**
 * The document once more, in the most literal form and with nothing in common with the class: places
 * one by one instead of sets of bits. The random runs hold the class against it.
 */
public final class Reference {
    private static final int NONE = -1;

    private static final class Rover {
        int place, battery = 100, column, row, load, steps, bumps, slips, every, slip;
        /** Each PLACE * 2, and 1 more if there was a slip in this BLOCK. */
        Set<Integer> beliefs = new TreeSet<>();

        Set<Integer> places() {
            Set<Integer> all = new TreeSet<>();
            for (int belief : beliefs) all.add(belief / 2);
            return all;
        }
    }

    private final boolean[] walls = new boolean[64];
    private final boolean[] sands = new boolean[64];
    private final int[] marks = new int[64];
    private final List<int[]> bins = new ArrayList<>();
    private final List<Rover> rovers = new ArrayList<>();
    private int dock, minute, home, spoilt, ever;

    private static int next(int place, int side) {
        int row = place / 8 + (side == 0 ? -1 : side == 2 ? 1 : 0);
        int column = place % 8 + (side == 1 ? 1 : side == 3 ? -1 : 0);
        return row < 0 || row > 7 || column < 0 || column > 7 ? NONE : row * 8 + column;
    }

    private boolean blocked(int place, int side) {
        int there = next(place, side);
        return there == NONE || walls[there];
    }

    private int shown(int place) {
        int sum = marks[place] * 16;
        int[] worth = {1, 2, 4, 8};
        for (int side = 0; side < 4; side++) if (blocked(place, side)) sum += worth[side];
        return sum;
    }

    private void believeAll(Rover rover) {
        rover.beliefs.clear();
        for (int p = 0; p < 64; p++) if (!walls[p]) rover.beliefs.add(2 * p);
    }

    private void believeDock(Rover rover) {
        rover.beliefs.clear();
        rover.beliefs.add(2 * dock);
    }

    private void changed() {
        for (Rover rover : rovers) {
            if (rover.place == dock) believeDock(rover);
            else believeAll(rover);
        }
    }

    private void placeMustBe(int place) {
        if (place < 0 || place > 63) throw new IndexOutOfBoundsException();
    }

    private Rover rover(int number) {
        if (number < 0 || number >= rovers.size()) throw new IndexOutOfBoundsException();
        return rovers.get(number);
    }

    private static int count(boolean[] of) {
        int sum = 0;
        for (boolean b : of) if (b) sum++;
        return sum;
    }

    public int wall(int place, boolean is) {
        placeMustBe(place);
        boolean taken = place == dock;
        for (Rover rover : rovers) taken |= rover.place == place;
        for (int[] bin : bins) taken |= bin[0] == place;
        if (taken) throw new IllegalStateException();
        walls[place] = is;
        changed();
        return count(walls);
    }

    public int ground(int place, boolean isSand, int mark) {
        placeMustBe(place);
        if (mark < 0 || mark > 3) throw new IllegalArgumentException();
        int old = marks[place];
        marks[place] = mark;
        sands[place] = isSand;
        changed();
        return old;
    }

    public int dock(int place) {
        placeMustBe(place);
        if (walls[place]) throw new IllegalStateException();
        int old = dock;
        dock = place;
        for (Rover rover : rovers) believeAll(rover);
        return old;
    }

    public int bin(int place, int loads, int rate) {
        placeMustBe(place);
        if (loads < 0 || loads > 50) throw new IllegalArgumentException();
        if (rate < 0 || rate > 9) throw new IllegalArgumentException();
        if (bins.size() == 4) throw new IllegalStateException();
        if (walls[place]) throw new IllegalStateException();
        bins.add(new int[] {place, loads, rate});
        ever += loads;
        return bins.size() - 1;
    }

    public int robot(int every, int slip) {
        if (every < 2 || every > 9) throw new IllegalArgumentException();
        if (slip != NONE && (slip < 0 || slip > every - 1)) throw new IllegalArgumentException();
        if (rovers.size() == 3) throw new IllegalStateException();
        Rover rover = new Rover();
        rover.every = every;
        rover.slip = slip;
        rover.place = dock;
        rover.column = dock % 8;
        rover.row = dock / 8;
        believeDock(rover);
        rovers.add(rover);
        return rovers.size() - 1;
    }

    private Set<Integer> behind(Rover rover, int side, boolean isBump) {
        Set<Integer> result = new TreeSet<>();
        boolean newBlock = rover.steps % rover.every == 0;
        for (int belief : rover.beliefs) {
            int place = belief / 2;
            int flag = newBlock ? 0 : belief % 2;
            if (blocked(place, side) != isBump) continue;
            if (isBump) {
                result.add(place * 2 + flag);
            } else {
                result.add(next(place, side) * 2 + flag);
                if (sands[place] && flag == 0) result.add(place * 2 + 1);
            }
        }
        return result;
    }

    private boolean canGo(Rover rover) {
        return rover.battery > 0 && minute < 720;
    }

    private void tick() {
        minute++;
        if (minute % 10 == 0) {
            for (int[] bin : bins) {
                ever += bin[2];
                bin[1] += bin[2];
                while (bin[1] > 50) {
                    bin[1]--;
                    spoilt++;
                }
            }
        }
    }

    private boolean walk(Rover rover, int side) {
        boolean bump = blocked(rover.place, side);
        boolean sand = sands[rover.place];
        rover.beliefs = behind(rover, side, bump);
        for (int i = 0; i < (sand ? 2 : 1); i++) if (rover.battery > 0) rover.battery--;
        if (bump) {
            rover.bumps++;
        } else {
            if (side == 0) rover.row--;
            if (side == 1) rover.column++;
            if (side == 2) rover.row++;
            if (side == 3) rover.column--;
            if (sand && rover.steps % rover.every == rover.slip) rover.slips++;
            else rover.place = next(rover.place, side);
        }
        rover.steps++;
        tick();
        return bump;
    }

    public boolean step(int robot, int side) {
        Rover rover = rover(robot);
        if (side < 0 || side > 3) throw new IllegalArgumentException();
        if (!canGo(rover)) throw new IllegalStateException();
        return walk(rover, side);
    }

    public int look(int robot) {
        Rover rover = rover(robot);
        int seen = shown(rover.place);
        rover.beliefs.removeIf(belief -> shown(belief / 2) != seen);
        return seen;
    }

    public int carry(int robot, int place) {
        Rover rover = rover(robot);
        placeMustBe(place);
        if (walls[place]) throw new IllegalStateException();
        int old = rover.place;
        rover.place = place;
        believeAll(rover);
        return old;
    }

    public int charge(int robot) {
        Rover rover = rover(robot);
        if (rover.place != dock) throw new IllegalStateException();
        int old = rover.battery;
        rover.battery = 100;
        rover.column = dock % 8;
        rover.row = dock / 8;
        believeDock(rover);
        return old;
    }

    public int take(int robot) {
        Rover rover = rover(robot);
        for (int[] bin : bins) {
            if (bin[0] == rover.place && bin[1] > 0) {
                int got = 0;
                while (rover.load < 5 && bin[1] > 0) {
                    rover.load++;
                    bin[1]--;
                    got++;
                }
                return got;
            }
        }
        throw new IllegalStateException();
    }

    public int bring(int robot) {
        Rover rover = rover(robot);
        if (rover.place != dock) throw new IllegalStateException();
        int got = rover.load;
        rover.load = 0;
        home += got;
        return got;
    }

    public boolean home(int robot) {
        Rover rover = rover(robot);
        String way = way(robot);
        if (way.equals("none")) throw new IllegalStateException();
        for (char sign : way.toCharArray()) {
            if (!canGo(rover) || walk(rover, "urdl".indexOf(sign))) break;
        }
        return rover.place == dock;
    }

    public int rest(int minutes) {
        if (minutes < 1 || minutes > 200) throw new IllegalArgumentException();
        if (minute >= 720) throw new IllegalStateException();
        for (int i = 0; i < minutes; i++) tick();
        return minute;
    }

    public int ofRobot(int robot, int what) {
        Rover rover = rover(robot);
        boolean inside = rover.column >= 0 && rover.column < 8 && rover.row >= 0 && rover.row < 8;
        switch (what) {
            case 0: return rover.place;
            case 1: return rover.battery;
            case 2: return rover.column;
            case 3: return rover.row;
            case 4: return rover.load;
            case 5: return rover.steps;
            case 6: return rover.bumps;
            case 7: return rover.slips;
            case 8: return rover.places().size();
            case 9: return inside && rover.places().contains(rover.row * 8 + rover.column) ? 1 : 0;
            case 10: return need(rover);
            case 11: return need(rover) == NONE || need(rover) > rover.battery - 2 ? 1 : 0;
            case 12: return way(robot).equals("none") ? NONE : way(robot).length();
            default: throw new IllegalArgumentException();
        }
    }

    private int need(Rover rover) {
        int[] needs = needs();
        int greatest = 0;
        for (int place : rover.places()) {
            if (needs[place] == NONE) return NONE;
            greatest = Math.max(greatest, needs[place]);
        }
        return greatest;
    }

    /** Each PLACE asks its neighbours again and again, till nobody hears of anything better. */
    private int[] needs() {
        int[] needs = new int[64];
        Arrays.fill(needs, NONE);
        needs[dock] = 0;
        boolean better = true;
        while (better) {
            better = false;
            for (int place = 0; place < 64; place++) {
                for (int side = 0; side < 4 && !walls[place]; side++) {
                    if (blocked(place, side) || needs[next(place, side)] == NONE) continue;
                    int cost = needs[next(place, side)] + (sands[place] ? 2 : 1);
                    if (needs[place] == NONE || cost < needs[place]) {
                        needs[place] = cost;
                        better = true;
                    }
                }
            }
        }
        return needs;
    }

    public long possible(int robot) {
        long sum = 0;
        for (int place : rover(robot).places()) sum += 1L << place;
        return sum;
    }

    public int ofPlace(int place, int what) {
        placeMustBe(place);
        int there = 0;
        for (Rover rover : rovers) if (rover.place == place) there++;
        int first = NONE;
        for (int i = bins.size() - 1; i >= 0; i--) if (bins.get(i)[0] == place) first = i;
        switch (what) {
            case 0: return walls[place] ? 1 : 0;
            case 1: return sands[place] ? 1 : 0;
            case 2: return marks[place];
            case 3: return needs()[place];
            case 4: return shown(place) % 16;
            case 5: return there;
            case 6: return first;
            default: throw new IllegalArgumentException();
        }
    }

    public int ofBin(int bin, int what) {
        if (bin < 0 || bin >= bins.size()) throw new IndexOutOfBoundsException();
        if (what < 0 || what > 2) throw new IllegalArgumentException();
        return bins.get(bin)[what];
    }

    public int yard(int what) {
        int inBins = 0;
        for (int[] bin : bins) inBins += bin[1];
        int onRobots = 0;
        int away = 0;
        for (Rover rover : rovers) {
            onRobots += rover.load;
            if (rover.place != dock) away++;
        }
        int[] all = {minute, dock, count(walls), count(sands), rovers.size(), bins.size(), inBins,
            onRobots, home, spoilt, ever, minute >= 720 ? 1 : 0, away};
        if (what < 0 || what >= all.length) throw new IllegalArgumentException();
        return all[what];
    }

    /** All rows of SIDES from the SUM in their order, shortest first, each PLACE entered once. */
    public String way(int robot) {
        Rover rover = rover(robot);
        if (rover.column < 0 || rover.column > 7 || rover.row < 0 || rover.row > 7) return "none";
        int start = rover.row * 8 + rover.column;
        if (walls[start]) return "none";
        Map<Integer, String> layer = new LinkedHashMap<>();
        Set<Integer> met = new HashSet<>();
        layer.put(start, "");
        while (!layer.isEmpty()) {
            if (layer.containsKey(dock)) return layer.get(dock);
            met.addAll(layer.keySet());
            Map<Integer, String> following = new LinkedHashMap<>();
            for (Map.Entry<Integer, String> one : layer.entrySet()) {
                for (int side = 0; side < 4; side++) {
                    int there = next(one.getKey(), side);
                    if (there == NONE || walls[there] || met.contains(there)) continue;
                    following.putIfAbsent(there, one.getValue() + "urdl".charAt(side));
                }
            }
            layer = following;
        }
        return "none";
    }

    public String row(int row, int robot) {
        if (row < 0 || row > 7) throw new IndexOutOfBoundsException();
        Rover rover = rover(robot);
        String text = "";
        for (int p = row * 8; p < row * 8 + 8; p++) {
            text += walls[p] ? "#" : rover.place == p ? "o" : rover.places().contains(p) ? "?" : ".";
        }
        return text;
    }

    public int after(int robot, int side, boolean isBump) {
        Rover rover = rover(robot);
        if (side < 0 || side > 3) throw new IllegalArgumentException();
        Set<Integer> places = new HashSet<>();
        for (int belief : behind(rover, side, isBump)) places.add(belief / 2);
        return places.size();
    }

    public int lookWorst(int robot) {
        int worst = 0;
        Set<Integer> places = rover(robot).places();
        for (int a : places) {
            int same = 0;
            for (int b : places) if (shown(a) == shown(b)) same++;
            worst = Math.max(worst, same);
        }
        return worst;
    }

    private int walked(int place, int side) {
        return blocked(place, side) ? place : next(place, side);
    }

    /** Layer by layer all sets that 0 to 6 SIDES lead to, each by its first row. */
    public String sure(int robot) {
        BitSet goal = new BitSet();
        goal.set(dock);
        BitSet start = new BitSet();
        for (int place : rover(robot).places()) start.set(place);
        Map<BitSet, String> layer = new LinkedHashMap<>();
        layer.put(start, "");
        for (int length = 0; length <= 6; length++) {
            if (layer.containsKey(goal)) return layer.get(goal);
            Map<BitSet, String> following = new LinkedHashMap<>();
            for (Map.Entry<BitSet, String> one : layer.entrySet()) {
                for (int side = 0; side < 4; side++) {
                    BitSet places = new BitSet();
                    for (int p = one.getKey().nextSetBit(0); p >= 0; p = one.getKey().nextSetBit(p + 1)) {
                        places.set(walked(p, side));
                    }
                    following.putIfAbsent(places, one.getValue() + "urdl".charAt(side));
                }
            }
            layer = following;
        }
        return "none";
    }

    public boolean isSound() {
        if (yard(6) + yard(7) + yard(8) + yard(9) != yard(10)) return false;
        for (int i = 0; i < rovers.size(); i++) {
            Rover rover = rovers.get(i);
            if (!rover.places().contains(rover.place) || walls[rover.place]) return false;
            for (int place : rover.places()) if (walls[place]) return false;
            String sure = sure(i);
            if (sure.equals("none")) continue;
            int place = rover.place;
            for (char sign : sure.toCharArray()) place = walked(place, "urdl".indexOf(sign));
            if (place != dock) return false;
        }
        return true;
    }

    public long digest() {
        List<Long> all = new ArrayList<>();
        for (int what = 0; what <= 12; what++) all.add((long) yard(what));
        for (int i = 0; i < rovers.size(); i++) {
            for (int what = 0; what <= 12; what++) all.add((long) ofRobot(i, what));
            all.add(possible(i));
            all.add((long) lookWorst(i));
            for (int side = 0; side < 4; side++) {
                all.add((long) after(i, side, true));
                all.add((long) after(i, side, false));
            }
            all.add((long) sure(i).length());
        }
        for (int i = 0; i < bins.size(); i++) {
            for (int what = 0; what <= 2; what++) all.add((long) ofBin(i, what));
        }
        for (int place = 0; place < 64; place++) all.add((long) ofPlace(place, 3));
        all.add(isSound() ? 1L : 0L);
        long d = 5147;
        for (long v : all) d = d * 31 + v;
        return d;
    }
}
