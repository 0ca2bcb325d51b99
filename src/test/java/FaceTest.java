import java.lang.reflect.Constructor;
import java.lang.reflect.Field;
import java.lang.reflect.Member;
import java.lang.reflect.Method;
import java.lang.reflect.Modifier;
import java.util.TreeSet;

/** The class shows what the document shows, and nothing else. */
public final class FaceTest {
    private static final String I = "IndexOutOfBoundsException";
    private static final String A = "IllegalArgumentException";
    private static final String S = "IllegalStateException";
    private static final String[] FACE = {
        "int wall(int,boolean) " + I + " " + S,
        "int ground(int,boolean,int) " + I + " " + A,
        "int dock(int) " + I + " " + S,
        "int bin(int,int,int) " + I + " " + A + " " + S,
        "int robot(int,int) " + A + " " + S,
        "boolean step(int,int) " + I + " " + A + " " + S,
        "int look(int) " + I,
        "int carry(int,int) " + I + " " + S,
        "int charge(int) " + I + " " + S,
        "int take(int) " + I + " " + S,
        "int bring(int) " + I + " " + S,
        "boolean home(int) " + I + " " + S,
        "int rest(int) " + A + " " + S,
        "int ofRobot(int,int) " + I + " " + A,
        "long possible(int) " + I,
        "int ofPlace(int,int) " + I + " " + A,
        "int ofBin(int,int) " + I + " " + A,
        "int yard(int) " + A,
        "java.lang.String way(int) " + I,
        "java.lang.String row(int,int) " + I,
        "int after(int,int,boolean) " + I + " " + A,
        "int lookWorst(int) " + I,
        "java.lang.String sure(int) " + I,
        "boolean isSound()",
        "long digest()",
    };

    private static String signature(Method method) {
        StringBuilder text = new StringBuilder();
        text.append(method.getReturnType().getName()).append(' ').append(method.getName()).append('(');
        for (Class<?> type : method.getParameterTypes()) {
            text.append(text.charAt(text.length() - 1) == '(' ? "" : ",").append(type.getName());
        }
        text.append(')');
        for (Class<?> type : method.getExceptionTypes()) {
            text.append(' ').append(type.getSimpleName());
        }
        return text.toString();
    }

    private static boolean isHidden(Member member) {
        return Modifier.isPrivate(member.getModifiers()) || member.isSynthetic();
    }

    public static void main(String[] arguments) {
        TreeSet<String> due = new TreeSet<>();
        for (String line : FACE) {
            due.add(line);
        }
        TreeSet<String> shown = new TreeSet<>();
        for (Method method : Stepscout.class.getDeclaredMethods()) {
            if (Modifier.isPublic(method.getModifiers()) && !Modifier.isStatic(method.getModifiers())) {
                shown.add(signature(method));
            } else {
                Check.is(method + " is hidden", isHidden(method), true);
            }
        }
        Check.is("the methods", shown, due);
        for (Field field : Stepscout.class.getDeclaredFields()) {
            Check.is(field + " is hidden", isHidden(field), true);
        }
        Constructor<?>[] constructors = Stepscout.class.getDeclaredConstructors();
        Check.is("constructors", constructors.length, 1);
        Check.is("it takes nothing", constructors[0].getParameterCount(), 0);
        Check.is("it is public", Modifier.isPublic(constructors[0].getModifiers()), true);
        Check.is("the class is final", Modifier.isFinal(Stepscout.class.getModifiers()), true);
        Check.is("the class is public", Modifier.isPublic(Stepscout.class.getModifiers()), true);
        Check.is("the class has no package", Stepscout.class.getPackageName(), "");
        Check.end("FaceTest");
    }
}
