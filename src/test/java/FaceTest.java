import java.io.IOException;
import java.lang.reflect.Constructor;
import java.lang.reflect.Field;
import java.lang.reflect.Method;
import java.lang.reflect.Modifier;
import java.nio.file.Files;
import java.nio.file.Path;
import java.util.Arrays;
import java.util.HashSet;
import java.util.Set;
import java.util.regex.Pattern;

/** The document's face, and what of LANGUAGE.md can be read from the class and its file. */
public final class FaceTest {
    private static final Check C = new Check("FaceTest");

    private static final String[] FACE = {
        "answer(int, int) int", "begin(int) boolean", "cause(int, int) int", "claim(int) int", "clear() int",
        "count(int) int", "deny(int, int, int, boolean) boolean", "fair() int", "fault(int, int, int, int) int",
        "first(int) int", "goes(int, int, int, int) int", "groups(int) int", "left() int", "line(int, int) int",
        "look(int, int, int, int, int) int", "mark(int) int", "mend(int) int", "name(int, int) boolean",
        "namer(int) boolean", "next(int, int, int) int", "node(int) int", "on(int, int, boolean) boolean",
        "route(int, int, int) boolean", "row(int) int", "tells(int) int", "unlike(int, int) int", "use(int) int",
        "well() int", "worst(int) int",
    };

    private static final String[] OUTSIDE = {
        "\\bcatch\\b", "\\bfinally\\b", "\\bsynchronized\\b", "\\bassert\\b", "->", "::", "\\bstatic \\{",
        "Exact\\(", "\\bRandom\\b", "\\bSystem\\.(?!arraycopy)", "\\bThread\\b", "\\bdouble\\b", "\\bfloat\\b",
        "\\bpackage\\b", "\\bprotected\\b", "while \\(true\\)", "for \\(;;\\)", "[^\\x00-\\x7f]",
    };

    public static void main(String[] args) throws IOException {
        Class<?> type = NetSchool.class;
        C.due("public and final", Modifier.PUBLIC | Modifier.FINAL, type.getModifiers());
        methodsAreTheFace(type);
        constructorsAndFields(type);
        for (Class<?> inner : type.getDeclaredClasses()) {
            C.due(inner + " is static", true, Modifier.isStatic(inner.getModifiers()));
            C.due(inner + " is not public", false, Modifier.isPublic(inner.getModifiers()));
            fieldsAreFew(inner);
        }
        C.due("at most twelve classes", true, type.getDeclaredClasses().length <= 11);
        String source = Files.readString(Path.of("src/main/java/NetSchool.java"));
        for (String rule : OUTSIDE) {
            C.due("file has " + rule, false, Pattern.compile(rule).matcher(source).find());
        }
        C.end();
    }

    private static String told(Method m) {
        String parameters = Arrays.toString(m.getParameterTypes()).replace("[", "(").replace("]", ")");
        return m.getName() + parameters + " " + m.getReturnType();
    }

    private static void methodsAreTheFace(Class<?> type) {
        Set<String> face = new HashSet<>(Arrays.asList(FACE));
        Set<String> names = new HashSet<>();
        for (String told : FACE) {
            names.add(told.substring(0, told.indexOf('(')));
        }
        int found = 0;
        for (Method m : type.getDeclaredMethods()) {
            boolean isFace = face.contains(told(m));
            C.due(told(m) + " is public", isFace, Modifier.isPublic(m.getModifiers()));
            C.due(told(m) + " is private", !isFace, Modifier.isPrivate(m.getModifiers()));
            C.due(told(m) + " bears a name of the face", isFace, names.contains(m.getName()));
            C.due(told(m) + " is static", false, isFace && Modifier.isStatic(m.getModifiers()));
            found += isFace ? 1 : 0;
        }
        C.due("methods of the face", FACE.length, found);
        for (Class<?> inner : type.getDeclaredClasses()) {
            for (Method m : inner.getDeclaredMethods()) {
                C.due(inner + " " + told(m) + " bears a name of the face", false, names.contains(m.getName()));
                C.due(told(m) + " takes at most seven", true, m.getParameterCount() <= 7);
            }
        }
    }

    private static void constructorsAndFields(Class<?> type) {
        Constructor<?>[] constructors = type.getDeclaredConstructors();
        C.due("one constructor", 1, constructors.length);
        C.due("it takes nothing", 0, constructors[0].getParameterCount());
        C.due("it is public", true, Modifier.isPublic(constructors[0].getModifiers()));
        for (Field f : type.getDeclaredFields()) {
            C.due(f + " is private", !f.getName().equals("NONE"), Modifier.isPrivate(f.getModifiers()));
        }
        fieldsAreFew(type);
    }

    private static void fieldsAreFew(Class<?> type) {
        int own = 0;
        for (Field f : type.getDeclaredFields()) {
            boolean isStatic = Modifier.isStatic(f.getModifiers());
            C.due(f + " is static and not final", false, isStatic && !Modifier.isFinal(f.getModifiers()));
            own += isStatic ? 0 : 1;
        }
        C.due(type + " has at most twenty fields", true, own <= 20);
    }
}
