import java.io.IOException;
import java.lang.reflect.Method;
import java.lang.reflect.Modifier;
import java.net.URL;
import java.net.URLClassLoader;
import java.nio.file.Files;
import java.nio.file.Path;
import java.util.ArrayList;
import java.util.List;
import java.util.regex.Matcher;
import java.util.regex.Pattern;
import javax.tools.JavaCompiler;
import javax.tools.ToolProvider;

/** The example of README.md is compiled and run: each call answers what stands behind it. */
public final class ReadmeTest {
    private static final Check C = new Check("ReadmeTest");
    private static final String EXAMPLE = "ReadmeExample";
    private static final Pattern CALL = Pattern.compile("(int \\w+ = )?(x\\.\\w+\\(.*\\)); *// (-?\\d+|true|false)\\b.*");

    public static void main(String[] args) throws IOException, ReflectiveOperationException {
        String readme = Files.readString(Path.of("README.md"));
        List<Matcher> calls = new ArrayList<>();
        StringBuilder body = new StringBuilder();
        for (String line : exampleOf(readme).split("\n")) {
            Matcher call = CALL.matcher(line);
            boolean asks = call.matches();
            C.due(line + " has its answer behind it", line.contains("x."), asks);
            body.append(asks ? askingLine(call, calls.size()) : line).append('\n');
            if (asks) {
                calls.add(call);
            }
        }
        int[] answers = run(body.toString(), calls.size());
        for (int i = 0; i < answers.length; i++) {
            C.due(calls.get(i).group(2), numberOf(calls.get(i).group(3)), answers[i]);
        }
        everyCallIsShown(readme);
        C.end();
    }

    private static String exampleOf(String readme) {
        int start = readme.indexOf("```java\n") + "```java\n".length();
        return readme.substring(start, readme.indexOf("```", start));
    }

    private static String askingLine(Matcher call, int number) {
        boolean isFlag = call.group(3).equals("true") || call.group(3).equals("false");
        String got = "got[" + number + "] = " + call.group(2) + (isFlag ? " ? 1 : 0;" : ";");
        return call.group(1) == null ? got : got + " " + call.group(1) + "got[" + number + "];";
    }

    private static int numberOf(String answer) {
        if (answer.equals("true")) {
            return 1;
        }
        return answer.equals("false") ? 0 : Integer.parseInt(answer);
    }

    private static int[] run(String body, int calls) throws IOException, ReflectiveOperationException {
        Path work = Files.createTempDirectory("readme");
        Path source = work.resolve(EXAMPLE + ".java");
        Path compiled = work.resolve(EXAMPLE + ".class");
        Files.writeString(source, "public final class " + EXAMPLE + " {\npublic static int[] answers() {\nint[] got = new int["
            + calls + "];\n" + body + "return got;\n}\n}\n");
        JavaCompiler javac = ToolProvider.getSystemJavaCompiler();
        int exit = javac.run(null, null, null, "-cp", System.getProperty("java.class.path"), "-d", work.toString(), source.toString());
        C.due("the example compiles", 0, exit);
        int[] answers = new int[0];
        if (exit == 0) {
            try (URLClassLoader loader = new URLClassLoader(new URL[] {work.toUri().toURL()})) {
                answers = (int[]) loader.loadClass(EXAMPLE).getMethod("answers").invoke(null);
            }
        }
        Files.deleteIfExists(compiled);
        Files.delete(source);
        Files.delete(work);
        return answers;
    }

    /** Who reads the page alone shall have met each call of the face. */
    private static void everyCallIsShown(String readme) {
        for (Method m : NetSchool.class.getDeclaredMethods()) {
            if (Modifier.isPublic(m.getModifiers())) {
                boolean shown = readme.contains("x." + m.getName() + "(") || readme.contains("`" + m.getName() + "`")
                    || readme.contains("`" + m.getName() + "(");
                C.due("README.md shows " + m.getName(), true, shown);
            }
        }
    }
}
