import java.io.IOException;
import java.lang.reflect.Constructor;
import java.lang.reflect.Field;
import java.lang.reflect.Method;
import java.lang.reflect.Modifier;
import java.nio.file.Files;
import java.nio.file.Path;
import java.util.Arrays;
import java.util.HashSet;
import java.util.Set;
import java.util.regex.Matcher;
import java.util.regex.Pattern;

/** The document's face, and what of LANGUAGE.md can be read from the class and its file. */
public final class FaceTest {
    private static final Check C = new Check("FaceTest");

    private static final String[] FACE = {
        "answer(int, int) int", "begin(int) boolean", "cause(int, int) int", "claim(int) int", "clear() int",
        "count(int) int", "deny(int, int, int, boolean) boolean", "fair() int", "fault(int, int, int, int) int",
        "first(int) int", "goes(int, int, int, int) int", "groups(int) int", "left() int", "line(int, int) int",
        "look(int, int, int, int, int) int", "mark(int) int", "mend(int) int", "name(int, int) boolean",
        "namer(int) boolean", "next(int, int, int) int", "node(int) int", "on(int, int, boolean) boolean",
        "route(int, int, int) boolean", "row(int) int", "tells(int) int", "unlike(int, int) int", "use(int) int",
        "well() int", "worst(int) int",
    };

    private static final String[] OUTSIDE = {
        "\\bcatch\\b", "\\bfinally\\b", "\\bsynchronized\\b", "\\bassert\\b", "->", "::", "\\bstatic \\{",
        "Exact\\(", "\\bRandom\\b", "\\bSystem\\.(?!arraycopy)", "\\bThread\\b", "\\bdouble\\b", "\\bfloat\\b",
        "\\bpackage\\b", "\\bprotected\\b", "while \\(true\\)", "for \\(;;\\)", "[^\\x00-\\x7f]",
    };

    public static void main(String[] args) throws IOException {
        Class<?> type = NetSchool.class;
        C.due("public and final", Modifier.PUBLIC | Modifier.FINAL, type.getModifiers());
        methodsAreTheFace(type);
        constructorsAndFields(type);
        for (Class<?> inner : type.getDeclaredClasses()) {
            C.due(inner + " is static", true, Modifier.isStatic(inner.getModifiers()));
            C.due(inner + " is not public", false, Modifier.isPublic(inner.getModifiers()));
            fieldsAreFew(inner);
        }
        C.due("at most twelve classes", true, type.getDeclaredClasses().length <= 11);
        String source = Files.readString(Path.of("src/main/java/NetSchool.java"));
        for (String rule : OUTSIDE) {
            C.due("file has " + rule, false, Pattern.compile(rule).matcher(source).find());
        }
        Path document = Path.of("../shared/DOC.md");
        if (Files.exists(document)) {
            faceIsTheDocuments(source, Files.readString(document));
        }
        methodsAreShort(source);
        C.end();
    }

    /** Each line of the document's face stands in the file as it is there, with a body in place of its sign. */
    private static void faceIsTheDocuments(String source, String document) {
        int start = document.indexOf("```java\n", document.indexOf("## The public face"));
        String face = document.substring(start, document.indexOf("```", start + 3));
        int lines = 0;
        for (String line : face.split("\n")) {
            String told = line.trim();
            if (told.startsWith("public ")) {
                lines++;
                boolean isThere = source.contains(told + "\n") || source.contains(told.replace(";", " {\n"));
                C.due("the file has " + told, true, isThere);
            }
        }
        C.due("public lines of the file", lines, source.split("\\bpublic\\b", -1).length - 1);
        C.due("public lines of the document", FACE.length + 3, lines);
    }

    private static void methodsAreShort(String source) {
        Matcher method = Pattern.compile("\n( {4}| {8})(\\w[^;={]*\\([^)]*\\) (throws \\w+ )?)\\{\n").matcher(source);
        int found = 0;
        while (method.find()) {
            if (method.group(2).matches("(if|for|while|switch) .*")) {
                continue;
            }
            found++;
            int end = source.indexOf("\n" + method.group(1) + "}\n", method.start());
            int lines = source.substring(method.end(), end).split("\n").length;
            C.due(method.group(2) + "has at most sixty lines", true, lines <= 60);
        }
        C.due("methods are found", true, found > FACE.length);
    }

    private static String told(Method m) {
        String parameters = Arrays.toString(m.getParameterTypes()).replace("[", "(").replace("]", ")");
        return m.getName() + parameters + " " + m.getReturnType();
    }

    private static void methodsAreTheFace(Class<?> type) {
        Set<String> face = new HashSet<>(Arrays.asList(FACE));
        Set<String> names = new HashSet<>();
        for (String told : FACE) {
            names.add(told.substring(0, told.indexOf('(')));
        }
        int found = 0;
        for (Method m : type.getDeclaredMethods()) {
            boolean isFace = face.contains(told(m));
            C.due(told(m) + " is public", isFace, Modifier.isPublic(m.getModifiers()));
            C.due(told(m) + " is private", !isFace, Modifier.isPrivate(m.getModifiers()));
            C.due(told(m) + " bears a name of the face", isFace, names.contains(m.getName()));
            C.due(told(m) + " is static", false, isFace && Modifier.isStatic(m.getModifiers()));
            found += isFace ? 1 : 0;
        }
        C.due("methods of the face", FACE.length, found);
        for (Class<?> inner : type.getDeclaredClasses()) {
            for (Method m : inner.getDeclaredMethods()) {
                C.due(inner + " " + told(m) + " bears a name of the face", false, names.contains(m.getName()));
                C.due(told(m) + " takes at most seven", true, m.getParameterCount() <= 7);
            }
        }
    }

    private static void constructorsAndFields(Class<?> type) {
        Constructor<?>[] constructors = type.getDeclaredConstructors();
        C.due("one constructor", 1, constructors.length);
        C.due("it takes nothing", 0, constructors[0].getParameterCount());
        C.due("it is public", true, Modifier.isPublic(constructors[0].getModifiers()));
        for (Field f : type.getDeclaredFields()) {
            C.due(f + " is private", !f.getName().equals("NONE"), Modifier.isPrivate(f.getModifiers()));
        }
        fieldsAreFew(type);
    }

    private static void fieldsAreFew(Class<?> type) {
        int own = 0;
        for (Field f : type.getDeclaredFields()) {
            boolean isStatic = Modifier.isStatic(f.getModifiers());
            C.due(f + " is static and not final", false, isStatic && !Modifier.isFinal(f.getModifiers()));
            own += isStatic ? 0 : 1;
        }
        C.due(type + " has at most twenty fields", true, own <= 20);
    }
}
