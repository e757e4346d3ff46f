import java.io.IOException;
import java.lang.reflect.Constructor;
import java.lang.reflect.Field;
import java.lang.reflect.Method;
import java.lang.reflect.Modifier;
import java.nio.file.Files;
import java.nio.file.Path;
import java.util.ArrayList;
import java.util.List;
import java.util.TreeSet;
import java.util.regex.Matcher;
import java.util.regex.Pattern;

/** The document's public face, and what LANGUAGE.md rules out and a reader of the file can see. */
public final class FaceTest {
    private static final Due due = new Due();
    private static final List<String> FACE = List.of(
            "int type(long, int)", "int clear()", "int rules()", "int rule(int, int)", "int turn(int, int)",
            "int assume(int, int)", "int sets()", "int set(int)", "int stands(int)", "int holds(int)",
            "int known(int)", "int why(int, int, int)", "int hangs(int)", "int explains(int, int)", "int givesUp()",
            "int idle(int)", "int alike(int)", "int mark(int, int)", "int keep(int)", "int back(int)",
            "int count(int)", "long trace()");
    private static final List<String> RULED_OUT = List.of(
            "import", "package", "throw", "throws", "try", "catch", "synchronized", "assert", "->", "::",
            "System", "Object", "Exact", "Math.random", "new Random", "static {");

    public static void main(String[] args) throws IOException {
        constants();
        members();
        source();
        due.end();
    }

    private static void constants() {
        due.is("BAD", HoldUnless.BAD, -1);
        due.is("STATE", HoldUnless.STATE, -2);
        due.is("FULL", HoldUnless.FULL, -3);
        due.is("NONE", HoldUnless.NONE, -9);
        due.is("NO", HoldUnless.NO, -1000000);
    }

    private static void members() {
        due.is("public final", HoldUnless.class.getModifiers(), Modifier.PUBLIC | Modifier.FINAL);
        TreeSet<String> shown = new TreeSet<>();
        for (Method method : HoldUnless.class.getDeclaredMethods()) {
            if (!Modifier.isPrivate(method.getModifiers())) {
                due.is("modifiers of " + method, method.getModifiers(), Modifier.PUBLIC);
                List<String> types = new ArrayList<>();
                for (Class<?> type : method.getParameterTypes()) {
                    types.add(type.getName());
                }
                shown.add(method.getReturnType() + " " + method.getName() + "(" + String.join(", ", types) + ")");
            }
        }
        due.isTrue("the face's methods, not " + shown, shown.equals(new TreeSet<>(FACE)));
        TreeSet<String> fields = new TreeSet<>();
        for (Field field : HoldUnless.class.getDeclaredFields()) {
            boolean isStatic = Modifier.isStatic(field.getModifiers());
            due.isTrue(field + " is final, if static", !isStatic || Modifier.isFinal(field.getModifiers()));
            if (!Modifier.isPrivate(field.getModifiers())) {
                fields.add(field.getName());
            }
        }
        due.isTrue("the face's constants", fields.equals(new TreeSet<>(List.of("BAD", "STATE", "FULL", "NONE", "NO"))));
        Constructor<?>[] constructors = HoldUnless.class.getDeclaredConstructors();
        due.is("constructors", constructors.length, 1);
        due.is("parameters", constructors[0].getParameterCount(), 0);
        for (Class<?> inside : HoldUnless.class.getDeclaredClasses()) {
            due.isTrue(inside + " is static", Modifier.isStatic(inside.getModifiers()));
            for (Method method : inside.getDeclaredMethods()) {
                due.isTrue(method + " has a name of its own",
                        FACE.stream().noneMatch(face -> face.contains(" " + method.getName() + "(")));
            }
        }
    }

    private static void source() throws IOException {
        String source = Files.readString(Path.of("src/main/java/HoldUnless.java"));
        String code = source.replaceAll("(?s)/\\*.*?\\*/", "").replaceAll("//[^\n]*", "");
        for (String word : RULED_OUT) {
            String bounded = word.matches("\\w+") ? "\\b" + word + "\\b" : Pattern.quote(word);
            due.isTrue("without " + word, !Pattern.compile(bounded).matcher(code).find());
        }
        Matcher made = Pattern.compile("\\bnew \\w+").matcher(code);
        while (made.find()) {
            String line = code.substring(code.lastIndexOf('\n', made.start()) + 1, made.end());
            // Rows and parts are made with the object, so that no call fills the room.
            due.isTrue("made in a field: " + line, line.trim().startsWith("private "));
        }
    }
}
