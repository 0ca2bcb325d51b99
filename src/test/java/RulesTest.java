import java.net.URI;
import java.nio.file.Files;
import java.nio.file.Path;
import java.util.List;
import java.util.Set;
import java.util.TreeSet;
import javax.tools.JavaCompiler;
import javax.tools.JavaFileObject;
import javax.tools.SimpleJavaFileObject;
import javax.tools.ToolProvider;
import com.sun.source.tree.CompilationUnitTree;
import com.sun.source.util.JavacTask;

/**
 * The class keeps to ../shared/LANGUAGE.md, as far as its source shows it (Rules tells how far), and Rules
 * finds what is outside: each rule it looks for is broken once here.
 */
public final class RulesTest {
    private static final String SOURCE = "src/main/java/Stepscout.java";

    private static final class Text extends SimpleJavaFileObject {
        private final String text;

        Text(String text) {
            super(URI.create("string:///Stepscout.java"), JavaFileObject.Kind.SOURCE);
            this.text = text;
        }

        @Override
        public CharSequence getCharContent(boolean ignoreEncodingErrors) {
            return text;
        }
    }

    private static Set<String> broken(String text) throws Exception {
        JavaCompiler compiler = ToolProvider.getSystemJavaCompiler();
        JavacTask task = (JavacTask) compiler.getTask(null, null, told -> { }, List.of("-proc:none"), null,
            List.of(new Text(text)));
        CompilationUnitTree unit = task.parse().iterator().next();
        task.analyze();
        return new Rules(task, unit).broken();
    }

    private static Set<Integer> numbers(Set<String> lines) {
        Set<Integer> numbers = new TreeSet<>();
        for (String line : lines) {
            numbers.add(Integer.parseInt(line.substring(0, line.indexOf(':'))));
        }
        return numbers;
    }

    /** Just that rule is found broken if these members stand in the class. */
    private static void breaks(int rule, String members) throws Exception {
        Check.is(members, numbers(broken("public final class Stepscout {\n" + members + "\n}")), Set.of(rule));
    }

    private static void keeps(String members) throws Exception {
        Check.is(members, broken("public final class Stepscout {\n" + members + "\n}"), Set.of());
    }

    private static void faceAndClasses() throws Exception {
        Check.is("a package", numbers(broken("package a;\npublic final class Stepscout { }")), Set.of(1));
        Check.is("not final", numbers(broken("public class Stepscout { }")), Set.of(1));
        Check.is("two classes", numbers(broken("public final class Stepscout { }\nfinal class B { }")), Set.of(1));
        breaks(1, "public int shown;");
        breaks(1, "int shown() { return 0; }");
        breaks(1, "protected static final class B { }");
        breaks(1, "public int look() { return 0; } private int look(int a) { return a; }");
        breaks(2, "private void a(int x) { class B { int b() { return x; } } }");
        breaks(2, "interface B { int b(int x); } private B a() { return x -> x; }");
        breaks(2, "interface B { int b(int x); } private B a() { return Math::abs; }");
        breaks(2, "final class B { }");
        keeps("private static final class B { int b; }");
    }

    private static void typesAndLibrary() throws Exception {
        breaks(3, "private Long a;");
        breaks(3, "private String[] a;");
        breaks(3, "private int[][][] a;");
        breaks(3, "private static final class B { } private B[][] b;");
        breaks(3, "private void a() { var x = new Object[2]; }");
        breaks(4, "private String a(int x) { return String.valueOf(x); }");
        breaks(4, "private int a(int x) { return Math.addExact(x, 1); }");
        breaks(4, "private long a() { return System.nanoTime(); }");
        breaks(4, "private String a() { return \"\u00e9\"; }");
        breaks(4, "private void a(StringBuilder b) { b.append(1L); }");
        keeps("private int[][] a; private int b(int x) { return Math.max(x, Long.bitCount(3L)); }");
        breaks(5, "private static int a;");
        breaks(5, "private static final int[] A = new int[3];");
        breaks(5, "private static final int A; static { A = 3; }");
        keeps("private static final int[] A = {1, 2}; private static final String B = \"b\";");
    }

    private static void exceptionsAndLoops() throws Exception {
        breaks(6, "public Stepscout() { throw new IllegalStateException(); }");
        breaks(6, "private void a() { throw new NullPointerException(); }");
        breaks(6, "private void a(IllegalStateException e) { throw e; }");
        breaks(6, "private void a() { throw new RuntimeException(new String(new char[1])); }");
        breaks(6, "private void a() { } private void b() { try { a(); } catch (RuntimeException e) { } }");
        breaks(6, "private void a(int x) { assert x > 0; }");
        breaks(6, "private void a() { synchronized (this) { } }");
        breaks(8, "private int a(int x) { return x > 0 ? b(x - 1) : 0; } private int b(int x) { return a(x); }");
        keeps("private static int a(int x, int depth) { return depth > 9 ? 0 : a(x, depth + 1); }");
        breaks(9, "private void a() { for (;;) { } }");
        breaks(9, "private void a(boolean b) { while (b) { } }");
        breaks(10, "private String a(int x) { return \"a\" + x; }");
        breaks(10, "private void a(String x) { x += 1; }");
        keeps("private void a() { throw new IllegalArgumentException(\"a\"); }");
    }

    private static void sizes() throws Exception {
        breaks(11, "private void a(int a, int b, int c, int d, int e, int f, int g, int h) { }");
        breaks(11, "private void a() {" + "\n".repeat(61) + "}");
        breaks(11, "private int a, b, c, d, e, f, g, h, i, j, k, l, m, n, o, p, q, r, s, t, u;");
        StringBuilder classes = new StringBuilder();
        StringBuilder calls = new StringBuilder();
        for (char c = 'a'; c < 'a' + 12; c++) {
            classes.append("private static final class C").append(c).append(" { }\n");
        }
        for (char c = 'a'; c < 'a' + 8; c++) {
            calls.append("private void ").append(c).append("() { ").append((char) (c + 1)).append("(); }\n");
        }
        breaks(11, classes.toString());
        breaks(11, calls + "private void i() { }");
        breaks(12, "private void a() { for (int i = 0; i < 3; i++) { new StringBuilder(); } }");
        breaks(12, "private void a() { for (int i = 0; i < 3; i++) { int[] b = new int[i]; } }");
        keeps("private static final class B { } private final B[] b;\n"
            + "public Stepscout() { b = new B[2]; for (int i = 0; i < 2; i++) { b[i] = new B(); } }");
    }

    public static void main(String[] arguments) throws Exception {
        Check.is("what is outside the rules", broken(Files.readString(Path.of(SOURCE))), Set.of());
        faceAndClasses();
        typesAndLibrary();
        exceptionsAndLoops();
        sizes();
        Check.end("RulesTest");
    }
}
