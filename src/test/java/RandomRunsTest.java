import java.lang.reflect.InvocationTargetException;
import java.lang.reflect.Method;
import java.util.ArrayList;
import java.util.List;
import java.util.Random;

/** Long runs of drawn calls (always the same ones), each answer held against the Reference. */
public final class RandomRunsTest {
    private static final int RUNS = 500;
    private static final int CALLS = 512;

    /** A call's name, what its arguments are, and how often it is drawn while a yard is laid out or lived in. */
    private static final Object[][] CALL_KINDS = {
        {"wall", "pb", 0, 1}, {"ground", "pbm", 0, 1}, {"dock", "p", 0, 1}, {"bin", "plq", 4, 2},
        {"robot", "es", 4, 1}, {"step", "rd", 0, 160}, {"look", "r", 0, 25}, {"carry", "rp", 0, 5},
        {"charge", "r", 0, 15}, {"take", "r", 0, 15}, {"bring", "r", 0, 10}, {"home", "r", 0, 12},
        {"rest", "t", 0, 4}, {"ofRobot", "rw", 1, 60}, {"possible", "r", 1, 30}, {"ofPlace", "pw", 1, 30},
        {"ofBin", "nw", 1, 10}, {"yard", "w", 1, 30}, {"way", "r", 1, 15}, {"row", "or", 1, 15},
        {"after", "rdb", 1, 30}, {"lookWorst", "r", 1, 15}, {"sure", "r", 1, 20}, {"isSound", "", 1, 4},
        {"digest", "", 1, 8},
    };

    private static final List<Method[]> METHODS = new ArrayList<>();

    private final Random random;
    private final Stepscout x = new Stepscout();
    private final Reference y = new Reference();
    private final int run;
    private int calls = 0;
    private int minutesAtOnce;

    private RandomRunsTest(int run) {
        this.run = run;
        this.random = new Random(7919L * run + 1);
        this.minutesAtOnce = random.nextInt(3) == 0 ? 200 : 20;
    }

    private Object argument(char kind) {
        boolean isOdd = random.nextInt(60) == 0;
        switch (kind) {
            case 'p': return isOdd ? odd(-1, 64, 8 * 9, -64) : random.nextInt(64);
            case 'b': return random.nextBoolean();
            case 'm': return isOdd ? odd(-1, 4, 16, -2) : random.nextInt(4);
            case 'l': return isOdd ? odd(-1, 51, 100, -50) : random.nextInt(51);
            case 'q': return isOdd ? odd(-1, 10, 90, -9) : random.nextInt(10);
            case 'e': return isOdd ? odd(1, 10, 0, -2) : 2 + random.nextInt(8);
            case 's': return isOdd ? odd(-2, 9, 10, 2) : random.nextInt(8) - 1;
            case 'r': return isOdd ? odd(-1, 3, 4, 2) : random.nextInt(3) * random.nextInt(2);
            case 'd': return isOdd ? odd(-1, 4, 5, -4) : random.nextInt(4);
            case 't': return isOdd ? odd(0, 201, -1, 1000) : 1 + random.nextInt(minutesAtOnce);
            case 'w': return isOdd ? odd(-1, 13, 14, 7) : random.nextInt(13);
            case 'n': return isOdd ? odd(-1, 4, 5, 3) : random.nextInt(4);
            default: return isOdd ? odd(-1, 8, 64, -8) : random.nextInt(8);
        }
    }

    private int odd(int a, int b, int c, int d) {
        int[] all = {a, b, c, d, Integer.MIN_VALUE, Integer.MAX_VALUE};
        return all[random.nextInt(all.length)];
    }

    private static String answer(Object target, Method method, Object[] arguments) throws Exception {
        try {
            return String.valueOf(method.invoke(target, arguments));
        } catch (InvocationTargetException e) {
            return "throws " + e.getCause().getClass().getSimpleName();
        }
    }

    private void call(int kind, Object... arguments) throws Exception {
        if (calls >= CALLS) {
            return;
        }
        calls++;
        String got = answer(x, METHODS.get(kind)[0], arguments);
        String due = answer(y, METHODS.get(kind)[1], arguments);
        Check.is("run " + run + ", call " + calls + ", " + CALL_KINDS[kind][0]
            + java.util.Arrays.toString(arguments), got, due);
    }

    private void drawnCall(int weightColumn) throws Exception {
        int sum = 0;
        for (Object[] kind : CALL_KINDS) {
            sum += (Integer) kind[weightColumn];
        }
        int drawn = random.nextInt(sum);
        int kind = 0;
        while (drawn >= (Integer) CALL_KINDS[kind][weightColumn]) {
            drawn -= (Integer) CALL_KINDS[kind][weightColumn];
            kind++;
        }
        String kinds = (String) CALL_KINDS[kind][1];
        Object[] arguments = new Object[kinds.length()];
        for (int i = 0; i < arguments.length; i++) {
            arguments[i] = argument(kinds.charAt(i));
        }
        call(kind, arguments);
    }

    /** Open yards, mazes and small rooms: doubt, ways and sure rows look different in each. */
    private void layOut() throws Exception {
        int style = random.nextInt(4);
        int wallPercent = style == 0 ? 0 : style == 1 ? 15 : 35;
        int sandPercent = random.nextInt(4) * 30;
        int markPercent = random.nextInt(3) * 20;
        int side = 2 + random.nextInt(3);
        int top = random.nextInt(9 - side);
        int left = random.nextInt(9 - side);
        call(2, (top + random.nextInt(side)) * 8 + left + random.nextInt(side));
        for (int place = 0; place < 64; place++) {
            boolean inRoom = place / 8 >= top && place / 8 < top + side && place % 8 >= left && place % 8 < left + side;
            boolean isWall = style == 3 ? !inRoom || random.nextInt(8) == 0 : random.nextInt(100) < wallPercent;
            if (isWall) {
                call(0, place, true);
            } else if (random.nextInt(100) < sandPercent || random.nextInt(100) < markPercent) {
                call(1, place, random.nextInt(100) < sandPercent,
                    random.nextInt(100) < markPercent ? random.nextInt(4) : 0);
            }
        }
        for (int i = 0; i < 8; i++) {
            drawnCall(2);
        }
        for (int i = 0; i < 2; i++) {
            int every = 2 + random.nextInt(8);
            call(4, every, random.nextInt(every + 1) - 1);
        }
    }

    private void live() throws Exception {
        layOut();
        while (calls < CALLS) {
            drawnCall(3);
        }
    }

    private static void findMethods() throws Exception {
        for (Object[] kind : CALL_KINDS) {
            String kinds = (String) kind[1];
            Class<?>[] types = new Class<?>[kinds.length()];
            for (int i = 0; i < types.length; i++) {
                types[i] = kinds.charAt(i) == 'b' ? boolean.class : int.class;
            }
            String name = (String) kind[0];
            METHODS.add(new Method[] {
                Stepscout.class.getMethod(name, types), Reference.class.getMethod(name, types)});
        }
    }

    public static void main(String[] arguments) throws Exception {
        int runs = arguments.length > 0 ? Integer.parseInt(arguments[0]) : RUNS;
        findMethods();
        for (int run = 0; run < runs; run++) {
            new RandomRunsTest(run).live();
        }
        Check.end("RandomRunsTest");
    }
}
