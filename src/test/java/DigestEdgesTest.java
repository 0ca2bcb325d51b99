import java.math.BigInteger;
import java.util.ArrayList;
import java.util.List;

/** The edges of promises 25 and 26: the checksum's order and wrap-around, the sign, "none" as 4 signs. */
public final class DigestEdgesTest {
    private static final BigInteger BASE = BigInteger.valueOf(31);

    /** An empty yard's, reckoned by hand outside of Java. */
    private static final long EMPTY = 7659456358896146108L;

    /** The numbers of the digest in their order, as the calls answer them. */
    private static List<Long> numbers(Stepscout x) {
        List<Long> all = new ArrayList<>();
        for (int what = 0; what <= 12; what++) {
            all.add((long) x.yard(what));
        }
        for (int robot = 0; robot < x.yard(4); robot++) {
            for (int what = 0; what <= 12; what++) {
                all.add((long) x.ofRobot(robot, what));
            }
            all.add(x.possible(robot));
            all.add((long) x.lookWorst(robot));
            for (int side = 0; side < 4; side++) {
                all.add((long) x.after(robot, side, true));
                all.add((long) x.after(robot, side, false));
            }
            String sure = x.sure(robot);
            all.add(sure.equals("none") ? 4L : sure.length());
        }
        for (int bin = 0; bin < x.yard(5); bin++) {
            for (int what = 0; what <= 2; what++) {
                all.add((long) x.ofBin(bin, what));
            }
        }
        for (int place = 0; place < 64; place++) {
            all.add((long) x.ofPlace(place, 3));
        }
        all.add(x.isSound() ? 1L : 0L);
        return all;
    }

    /** Without any bound; its lowest 64 bits, read with a sign, are what wraps around. */
    private static BigInteger unbounded(List<Long> numbers) {
        BigInteger d = BigInteger.valueOf(5147);
        for (long v : numbers) {
            d = d.multiply(BASE).add(BigInteger.valueOf(v));
        }
        return d;
    }

    private static void digestIsDue(String what, Stepscout x) {
        BigInteger due = unbounded(numbers(x));
        Check.is(what + ": it is far above 64 bits", due.bitLength() > 64, true);
        Check.is(what + ": digest", x.digest(), due.longValue());
        Check.is(what + ": nothing is changed by it", x.digest(), due.longValue());
    }

    /** The 13 numbers of an empty yard are 0, its NEEDS are rows and columns, and it is sound. */
    private static void anEmptyYard() {
        List<Long> due = new ArrayList<>();
        for (int i = 0; i < 13; i++) {
            due.add(0L);
        }
        for (int place = 0; place < 64; place++) {
            due.add((long) place / 8 + place % 8);
        }
        due.add(1L);
        Check.is("an empty yard", new Stepscout().digest(), unbounded(due).longValue());
        Check.is("its digest is written out", new Stepscout().digest(), EMPTY);
    }

    private static void setsWithTheSign() {
        Stepscout x = new Stepscout();
        x.dock(63);
        x.robot(2, -1);
        Check.is("the sign", x.possible(0), Long.MIN_VALUE);
        digestIsDue("the sign alone", x);
        x.carry(0, 0);
        Check.is("all", x.possible(0), -1L);
        digestIsDue("all", x);
        Check.is("below 0 is not taken as without a sign", numbers(x).contains(-1L), true);
    }

    /** NONE is counted as -1, a SUM outside as it is, a SURE row that is none as 4 signs. */
    private static void numbersBelowZero() {
        Stepscout x = new Stepscout();
        x.wall(62, true);
        x.wall(55, true);
        x.robot(2, -1);
        x.carry(0, 63);
        x.step(0, 0);
        x.carry(0, 8);
        x.step(0, 0);
        Check.is("outside", x.ofRobot(0, 3), -1);
        Check.is("no way", x.ofRobot(0, 12), -1);
        Check.is("no need", x.ofPlace(63, 3), -1);
        x.carry(0, 63);
        Check.is("no need of the robot", x.ofRobot(0, 10), -1);
        Check.is("none", x.sure(0), "none");
        digestIsDue("below 0", x);
        x.carry(0, 36);
        x.look(0);
        digestIsDue("seen", x);
    }

    /** A row of 4 SIDES counts as much as none. */
    private static void fourSigns() {
        Stepscout x = new Stepscout();
        x.robot(9, -1);
        for (int i = 0; i < 4; i++) {
            x.step(0, 1);
            Check.is("signs", x.sure(0).length(), i + 1);
            digestIsDue("a row of " + (i + 1), x);
        }
    }

    private static void aFullYard() {
        Stepscout x = new Stepscout();
        x.dock(27);
        for (int bin = 0; bin < 4; bin++) {
            x.bin(27 + bin, 50 - bin, 9 - bin);
        }
        for (int place = 40; place < 48; place++) {
            x.wall(place, true);
        }
        for (int place = 26; place < 32; place++) {
            x.ground(place, true, place % 4);
        }
        x.robot(2, 0);
        x.robot(5, 1);
        x.robot(9, -1);
        for (int robot = 0; robot < 3; robot++) {
            x.take(robot);
            x.step(robot, 1);
            x.step(robot, 1);
        }
        digestIsDue("a full yard", x);
        x.rest(200);
        digestIsDue("later", x);
    }

    /** "an object's digest" tells yards apart that differ in one answer alone. */
    private static void oneAnswerMore() {
        Stepscout x = new Stepscout();
        x.robot(9, -1);
        long first = x.digest();
        Check.is("asked again", x.digest(), first);
        x.bin(9, 0, 0);
        long second = x.digest();
        Check.is("a bin", second != first, true);
        x.ground(63, true, 0);
        long third = x.digest();
        Check.is("sand", third != second, true);
        x.rest(1);
        Check.is("a minute", x.digest() != third, true);
    }

    /** "each ROBOT's PLACE is POSSIBLE for it, and no WALL; .. a SURE row of each ROBOT leads to the DOCK". */
    private static void allIsSound() {
        Stepscout x = new Stepscout();
        Check.is("new", x.isSound(), true);
        for (int place = 0; place < 64; place += 2) {
            x.ground(place, true, place / 2 % 4);
        }
        x.bin(1, 50, 9);
        x.robot(2, 1);
        x.robot(3, 2);
        x.robot(9, 8);
        int[] sides = {1, 2, 1, 0, 3, 2, 2, 3, 0, 1, 0, 3, 3, 0};
        for (int side : sides) {
            for (int robot = 0; robot < 3; robot++) {
                x.step(robot, side);
                Check.is("it is possible", x.possible(robot) >>> x.ofRobot(robot, 0) & 1, 1L);
                Check.is("sound behind steps", x.isSound(), true);
            }
        }
        x.carry(1, 1);
        x.take(1);
        Check.is("sound behind carrying", x.isSound(), true);
        x.wall(62, true);
        Check.is("sound behind a wall", x.isSound(), true);
        x.look(0);
        Check.is("sound behind a look", x.isSound(), true);
        x.dock(9);
        Check.is("sound behind a dock", x.isSound(), true);
        x.rest(200);
        Check.is("sound behind a rest", x.isSound(), true);
    }

    /** The SURE rows of the ROBOTS are asked, not what was found for a way() or a sure() ahead of it. */
    private static void soundBehindOtherRows() {
        Stepscout x = new Stepscout();
        x.robot(3, 0);
        x.robot(3, 0);
        x.step(0, 1);
        x.step(1, 2);
        Check.is("another's sure row", x.sure(1), "u");
        Check.is("sound behind that", x.isSound(), true);
        x.step(1, 2);
        x.carry(1, 63);
        Check.is("a way by a sum", x.way(1), "uu");
        Check.is("sound behind the way", x.isSound(), true);
    }

    public static void main(String[] arguments) {
        anEmptyYard();
        setsWithTheSign();
        numbersBelowZero();
        fourSigns();
        aFullYard();
        oneAnswerMore();
        allIsSound();
        soundBehindOtherRows();
        Check.end("DigestEdgesTest");
    }
}
