import java.io.IOException;
import java.lang.reflect.Method;
import java.nio.file.Files;
import java.nio.file.Path;
import java.util.TreeSet;
import java.util.regex.Matcher;
import java.util.regex.Pattern;

/** README.md: its example answers what it says, and it tells every call of the face. */
public final class ReadmeTest {
    private static final Due due = new Due();
    // A call of the example with the number that it answers: x.set(0);   // 1: ..
    private static final Pattern ANSWERED = Pattern.compile("x\\.(\\w+)\\(([^)]*)\\);\\s*//\\s*(-?\\d+)\\b");
    private static final Pattern TOLD = Pattern.compile("(?m)^\\| `(\\w+)\\(");

    public static void main(String[] args) throws IOException, ReflectiveOperationException {
        String readme = Files.readString(Path.of("README.md"));
        example(readme);
        everyCall(readme);
        due.end();
    }

    private static void example(String readme) throws ReflectiveOperationException {
        HoldUnless x = new HoldUnless();
        Matcher lines = ANSWERED.matcher(readme);
        int many = 0;
        while (lines.find()) {
            due.is(lines.group(1) + "(" + lines.group(2) + ")", ask(x, lines.group(1), lines.group(2)),
                    Long.parseLong(lines.group(3)));
            many++;
        }
        due.isTrue("the example has calls", many > 5);
    }

    private static long ask(HoldUnless x, String name, String written) throws ReflectiveOperationException {
        String[] parts = written.isBlank() ? new String[0] : written.split("\\s*,\\s*");
        for (Method method : HoldUnless.class.getMethods()) {
            if (method.getDeclaringClass() == HoldUnless.class && method.getName().equals(name)) {
                Object[] arguments = new Object[parts.length];
                for (int i = 0; i < parts.length; i++) {
                    long value = Long.decode(parts[i].replace("L", ""));
                    boolean isInt = method.getParameterTypes()[i] == int.class;
                    arguments[i] = isInt ? (Object) (int) value : (Object) value;
                }
                return ((Number) method.invoke(x, arguments)).longValue();
            }
        }
        throw new NoSuchMethodException(name);
    }

    private static void everyCall(String readme) {
        TreeSet<String> face = new TreeSet<>();
        for (Method method : HoldUnless.class.getMethods()) {
            if (method.getDeclaringClass() == HoldUnless.class) {
                face.add(method.getName());
            }
        }
        TreeSet<String> told = new TreeSet<>();
        Matcher rows = TOLD.matcher(readme);
        while (rows.find()) {
            told.add(rows.group(1));
        }
        due.isTrue("the table has every call of " + face + ", not " + told, told.equals(face));
    }
}
