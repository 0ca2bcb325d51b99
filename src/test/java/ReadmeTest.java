import java.lang.reflect.Method;
import java.lang.reflect.Modifier;
import java.nio.file.Files;
import java.nio.file.Path;

/** What README.md tells is so: its example, call by call, and a line of its table for each call. */
public final class ReadmeTest {
    private static void example(String text) {
        Stepscout yard = new Stepscout();
        Check.is("wall", yard.wall(9, true), 1);
        Check.is("ground", yard.ground(8, true, 2), 0);
        Check.is("bin", yard.bin(16, 12, 3), 0);
        int robot = yard.robot(3, 1);
        Check.is("step", yard.step(robot, 2), false);
        Check.is("step that slips", yard.step(robot, 2), false);
        Check.is("it is at 8 still", yard.ofRobot(robot, 0), 8);
        Check.is("possible", yard.possible(robot), 0x10100L);
        Check.is("way", yard.way(robot), "uu");
        Check.is("look", yard.look(robot), 42);
        Check.is("possible behind that", yard.possible(robot), 0x100L);
        Check.is("sure", yard.sure(robot), "u");
        Check.is("home", yard.home(robot), true);
        Check.is("it bumped", yard.ofRobot(robot, 6), 1);
        Check.is("charge", yard.charge(robot), 94);
        for (String told : new String[] {"0x10100:", "\"uu\":", "42:", "0x100:", "\"u\":", "94:"}) {
            Check.is("the example tells " + told, text.contains("// " + told), true);
        }
    }

    private static void table(String text) {
        for (Method method : Stepscout.class.getDeclaredMethods()) {
            if (Modifier.isPublic(method.getModifiers())) {
                Check.is("a line for " + method.getName(), text.contains("\n| `" + method.getName() + "("), true);
            }
        }
    }

    public static void main(String[] arguments) throws Exception {
        String text = Files.readString(Path.of("README.md"));
        example(text);
        table(text);
        Check.end("ReadmeTest");
    }
}
