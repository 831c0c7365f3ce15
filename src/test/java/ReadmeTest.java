import java.io.IOException;
import java.lang.reflect.Method;
import java.lang.reflect.Modifier;
import java.nio.file.Files;
import java.nio.file.Path;
import java.util.regex.Matcher;
import java.util.regex.Pattern;

/** README.md: its example answers what it says, and it names every call and constant. */
public final class ReadmeTest {
    private static final String FENCE = "```";
    private static final Pattern CALL = Pattern.compile("x\\.(\\w+)\\(([^)]*)\\); +// (-?\\d+): .+");

    private ReadmeTest() {
    }

    public static void main(String[] args) throws IOException, ReflectiveOperationException {
        String text = Files.readString(Path.of("README.md"));
        names(text);
        example(text);
        Check.finish();
    }

    private static void names(String text) {
        for (Method method : ArraySegments.class.getDeclaredMethods()) {
            if (Modifier.isPublic(method.getModifiers())) {
                boolean told = Pattern.compile("\\| `" + method.getName() + "\\([^`]*`").matcher(text).find();
                Check.isTrue("README.md tells of " + method.getName(), told);
            }
        }
        for (String constant : new String[] {"`RANGE` (-2)", "`STATE` (-3)", "`FULL` (-4)", "`NONE` (-1)", ".ci/run"}) {
            Check.isTrue("README.md tells of " + constant, text.contains(constant));
        }
        for (int kind = 0; kind <= 14; kind++) {
            Check.isTrue("README.md tells of kind " + kind, text.contains("| `act(" + kind + ", "));
        }
    }

    private static void example(String text) throws ReflectiveOperationException {
        int from = text.indexOf(FENCE + "java\n");
        int behind = from < 0 ? -1 : text.indexOf(FENCE, from + FENCE.length());
        Check.isTrue("README.md has an example", behind > from && from >= 0);
        if (behind < 0) {
            return;
        }
        String[] lines = text.substring(from, behind).split("\n");
        Check.due("its first line", lines[1], "ArraySegments x = new ArraySegments();");
        Check.isTrue("calls follow", lines.length > 10);
        ArraySegments x = new ArraySegments();
        for (int at = 2; at < lines.length; at++) {
            Matcher call = CALL.matcher(lines[at]);
            boolean isCall = call.matches();
            Check.isTrue("a call and its answer: " + lines[at], isCall);
            if (isCall) {
                Check.due("README.md: " + lines[at], answer(x, call.group(1), call.group(2)), Long.parseLong(call.group(3)));
            }
        }
    }

    private static long answer(ArraySegments x, String name, String told) throws ReflectiveOperationException {
        String[] words = told.isEmpty() ? new String[0] : told.split(", ");
        Class<?>[] types = new Class<?>[words.length];
        Object[] numbers = new Object[words.length];
        for (int at = 0; at < words.length; at++) {
            boolean isLong = words[at].endsWith("L");
            types[at] = isLong ? long.class : int.class;
            numbers[at] = isLong ? (Object) Long.valueOf(words[at].replace("L", "")) : (Object) Integer.valueOf(words[at]);
        }
        return (Integer) ArraySegments.class.getMethod(name, types).invoke(x, numbers);
    }
}
