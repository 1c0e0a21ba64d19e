import java.io.IOException;
import java.net.URI;
import java.nio.file.Files;
import java.nio.file.Path;
import java.util.List;
import java.util.regex.Matcher;
import java.util.regex.Pattern;
import javax.tools.JavaCompiler;
import javax.tools.JavaFileObject;
import javax.tools.SimpleJavaFileObject;
import javax.tools.ToolProvider;

/** The example in README.md compiles, and each line of it answers what stands behind it. */
final class ReadmeTest {
    private static final Pattern LINE =
            Pattern.compile("(?:int (\\w+) = )?(court\\.\\w+\\(.*\\)); *// (\\S+)");

    public static void main(String[] args) throws Exception {
        Expect expect = new Expect("ReadmeTest");
        StringBuilder text = new StringBuilder("public final class Example {\n");
        text.append("public static String wrong() {\nString wrong = \"\";\n");
        int asked = 0;
        for (String line : example()) {
            Matcher matcher = LINE.matcher(line);
            if (matcher.matches()) {
                asked++;
                addLine(text, matcher, asked);
            } else {
                text.append(line).append('\n');
            }
        }
        text.append("return wrong;\n}\n}\n");
        int lines = asked;
        expect.is("lines with an answer", true, () -> lines >= 20);
        expect.is("the example", "", () -> answerOf(text.toString()));
        expect.close();
    }

    private static void addLine(StringBuilder text, Matcher matcher, int number) {
        String name = matcher.group(1) == null ? "answer" + number : matcher.group(1);
        text.append("var ").append(name).append(" = ").append(matcher.group(2)).append(";\n");
        text.append("if (!String.valueOf(").append(name).append(").equals(\"");
        text.append(matcher.group(3)).append("\")) wrong += \"").append(matcher.group(2));
        text.append(" answered \" + ").append(name).append(" + \"; \";\n");
    }

    private static List<String> example() throws IOException {
        String readme = Files.readString(Path.of("README.md"));
        int start = readme.indexOf("```java\n") + 8;
        return List.of(readme.substring(start, readme.indexOf("```", start)).split("\n"));
    }

    private static String answerOf(String text) {
        try {
            Path folder = Files.createTempDirectory("readme");
            folder.toFile().deleteOnExit();
            folder.resolve("Example.class").toFile().deleteOnExit();
            JavaFileObject source = new SimpleJavaFileObject(
                    URI.create("string:///Example.java"), JavaFileObject.Kind.SOURCE) {
                @Override
                public CharSequence getCharContent(boolean ignoreErrors) {
                    return text;
                }
            };
            JavaCompiler compiler = ToolProvider.getSystemJavaCompiler();
            List<String> options = List.of("-proc:none", "-cp",
                    System.getProperty("java.class.path"), "-d", folder.toString());
            if (!compiler.getTask(null, null, null, options, null, List.of(source)).call()) {
                return "it does not compile";
            }
            byte[] compiled = Files.readAllBytes(folder.resolve("Example.class"));
            return (String) new Loader().define(compiled).getMethod("wrong").invoke(null);
        } catch (IOException | ReflectiveOperationException e) {
            return e.toString();
        }
    }

    private static final class Loader extends ClassLoader {
        Class<?> define(byte[] compiled) {
            return defineClass("Example", compiled, 0, compiled.length);
        }
    }
}
