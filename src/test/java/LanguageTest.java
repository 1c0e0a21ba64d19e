import java.io.IOException;
import java.nio.file.Files;
import java.nio.file.Path;
import java.util.List;
import java.util.Set;
import java.util.TreeSet;

/** The program keeps to ../shared/LANGUAGE.md, and whoever looks for breaks does find them. */
final class LanguageTest {
    private static final Path PROGRAM = Path.of("src/main/java/EffectCourt.java");

    private static Expect expect;

    public static void main(String[] args) throws IOException {
        expect = new Expect("LanguageTest");
        String program = Files.readString(PROGRAM);
        expect.is("what the program breaks", List.of(), () -> Language.breaks(program));
        expect.is("signs beyond 127", 0L, () -> program.chars().filter(sign -> sign > 127).count());
        expect.is("no breaks", Set.of(), () -> rules(around("int a() { return 1; }")));
        faces();
        typesAndLibrary();
        exceptions();
        whatTheMachineThrows();
        loopsAndCalls();
        lengths();
        expect.close();
    }

    private static String around(String members) {
        return "public final class EffectCourt { " + members + " }";
    }

    private static Set<String> rules(String program) {
        Set<String> found = new TreeSet<>();
        for (String each : Language.breaks(program)) {
            found.add(each.substring(0, each.indexOf(':')));
        }
        return found;
    }

    private static void found(int rule, String members) {
        expect.is(members, Set.of(Integer.toString(rule)), () -> rules(around(members)));
    }

    private static void faces() {
        expect.is("a package", Set.of("1"), () -> rules("package a; " + around("")));
        expect.is("two classes", Set.of("1"), () -> rules(around("") + " class Other { }"));
        expect.is("not final", Set.of("1"), () -> rules("public class EffectCourt { }"));
        found(1, "int a;");
        found(1, "final class Inner { }");
        found(1, "public static final class Inner { }");
        found(1, "public int a() { return 1; } static class A { private int a() { return 1; } }");
    }

    private static void typesAndLibrary() {
        expect.is("an import", Set.of("4"), () -> rules("import java.util.*; " + around("")));
        String lambda = "private Runnable a; void b() { a = () -> { }; }";
        expect.is(lambda, Set.of("2", "3"), () -> rules(around(lambda)));
        found(3, "int a(Object b) { return 1; }");
        found(3, "int a(String[] b) { return 1; }");
        found(4, "long a() { return System.nanoTime(); }");
        found(4, "int a() { return Math.addExact(1, 1); }");
        found(4, "String a() { return \"\u00e9\"; }");
        found(5, "private static int a = 1;");
        found(5, "private int a; { a = 1; }");
        found(10, "String a(String b) { return b + 1; }");
    }

    private static void exceptions() {
        found(6, "void a() { throw new SecurityException(); }");
        found(6, "void a(String b) { throw new IllegalStateException(b); }");
        found(6, "void a(String b) { throw b == null ? new RuntimeException() : null; }");
        found(6, "EffectCourt(int a) { throw new IllegalStateException(); }");
        found(6, "void a() { assert 1 > 2; }");
        found(6, "synchronized void a() { }");
        found(6, "void a() { synchronized (this) { } }");
        found(6, "private void a() { try { a(); } finally { } }");
        found(6, "public int hashCode() { return 1; }");
    }

    private static void whatTheMachineThrows() {
        found(7, "int a(int[] b) { return b[0]; }");
        found(7, "int a(int b) { return 1 / b; }");
        found(7, "int a(int b) { return 1 % b; }");
        found(7, "int a(int b) { b /= 0; return b; }");
        found(7, "private final int[] a = new int[1];");
    }

    private static void loopsAndCalls() {
        found(8, "int a(int b) { return b > 0 ? a(b - 1) : 0; }");
        found(8, "int a() { return b(); } private int b() { return a(); }");
        found(9, "void a() { while (true) { } }");
        found(9, "void a() { for (;;) { } }");
        found(9, "void a() { do { } while (true); }");
        found(12, "EffectCourt a() { return new EffectCourt(); }");
        found(12, "static class A { } EffectCourt(int b) { for (; b > 0; b--) { new A(); } }");
        found(12, "EffectCourt(int a) { b(); } private void b() { }");
        found(11, chain(9));
        expect.is("calls eight deep", Set.of(), () -> rules(around(chain(8))));
    }

    /** Methods of which each calls the next one. */
    private static String chain(int length) {
        StringBuilder text = new StringBuilder("public void a1() { ");
        for (int number = 2; number <= length; number++) {
            text.append("a").append(number).append("(); } private void a").append(number)
                    .append("() { ");
        }
        return text.append("}").toString();
    }

    private static void lengths() {
        found(11, "void a(int b, int c, int d, int e, int f, int g, int h, int i) { }");
        found(11, "void a() { " + "\n".repeat(60) + "}");
        expect.is("sixty lines", Set.of(),
                () -> rules(around("void a() { " + "\n".repeat(59) + "}")));
        StringBuilder fields = new StringBuilder();
        StringBuilder classes = new StringBuilder();
        for (int number = 0; number < 21; number++) {
            fields.append("private int a").append(number).append("; ");
            classes.append("static class A").append(number).append(" { } ");
        }
        found(11, fields.toString());
        found(11, classes.toString());
    }
}
