import java.io.IOException;
import java.lang.reflect.Constructor;
import java.lang.reflect.Field;
import java.lang.reflect.Method;
import java.lang.reflect.Modifier;
import java.nio.file.Files;
import java.nio.file.Path;
import java.util.Arrays;
import java.util.List;
import java.util.Random;
import java.util.TreeSet;
import java.util.regex.Matcher;
import java.util.regex.Pattern;

/** The public face, the rules of LANGUAGE.md that can be looked up, and wild calls that must not throw. */
public final class FaceTest {
    private static final Path SOURCE = Path.of("src/main/java/ArraySegments.java");
    private static final String[] FACE = {"clear()", "act(int,int,int,int,int,int)", "drop(int)", "reached(int)",
        "throwsAt(int)", "ends()", "variable(int,int)", "reference(int)", "means(int,int)", "array(int,int)",
        "segment(int,int,int)", "status()", "run(long)", "where()", "value(int)", "place(int,int)", "length(int)",
        "same(int,int)", "holds(long)", "told(int)"};
    private static final List<String> LIBRARY = List.of("Math.max", "Math.min", "Long.bitCount", "Integer.bitCount",
        "System.arraycopy");

    private FaceTest() {
    }

    public static void main(String[] args) throws IOException {
        methods();
        fieldsAndConstructors();
        words();
        sizes();
        for (int seed = 0; seed < 300; seed++) {
            wildCalls(seed);
        }
        Check.finish();
    }

    private static void methods() {
        TreeSet<String> open = new TreeSet<>();
        TreeSet<String> names = new TreeSet<>();
        for (String one : FACE) {
            names.add(one.substring(0, one.indexOf('(')));
        }
        for (Method method : ArraySegments.class.getDeclaredMethods()) {
            if (method.isSynthetic()) {
                continue;
            }
            if (Modifier.isPrivate(method.getModifiers())) {
                Check.isTrue("private " + method.getName() + " has a name of its own", !names.contains(method.getName()));
                continue;
            }
            String types = Arrays.stream(method.getParameterTypes()).map(Class::getName).reduce((a, b) -> a + "," + b)
                .orElse("");
            open.add(method.getName() + "(" + types + ")");
            boolean plain = Modifier.isPublic(method.getModifiers()) && !Modifier.isStatic(method.getModifiers());
            Check.isTrue(method.getName() + " is public and answers an int", plain && method.getReturnType() == int.class);
        }
        Check.due("methods", open.toString(), new TreeSet<>(List.of(FACE)).toString());
    }

    private static void fieldsAndConstructors() {
        TreeSet<String> open = new TreeSet<>();
        for (Field field : ArraySegments.class.getDeclaredFields()) {
            if (!Modifier.isPrivate(field.getModifiers())) {
                open.add(field.getName());
            }
        }
        Check.due("constants", open.toString(), "[FULL, NONE, RANGE, STATE]");
        Check.due("NONE", ArraySegments.NONE, -1);
        Check.due("RANGE", ArraySegments.RANGE, -2);
        Check.due("STATE", ArraySegments.STATE, -3);
        Check.due("FULL", ArraySegments.FULL, -4);
        Constructor<?>[] all = ArraySegments.class.getDeclaredConstructors();
        Check.due("constructors", all.length, 1);
        Check.isTrue("it is public", Modifier.isPublic(all[0].getModifiers()) && all[0].getParameterCount() == 0);
        Check.isTrue("the class is public and final", Modifier.isPublic(ArraySegments.class.getModifiers())
            && Modifier.isFinal(ArraySegments.class.getModifiers()));
    }

    private static void words() throws IOException {
        String source = Files.readString(SOURCE);
        String code = source.replaceAll("(?s)/\\*.*?\\*/", "").replaceAll("//[^\n]*", "");
        for (String word : new String[] {"throw", "throws", "try", "catch", "finally", "synchronized", "assert",
            "import", "package", "System.out", "Exact", "protected", "volatile", "native", "transient"}) {
            Check.isTrue("no " + word, !Pattern.compile("\\b" + word + "\\b").matcher(code).find());
        }
        Matcher used = Pattern.compile("\\b(Math|Long|Integer|System|Arrays|String|StringBuilder|Character|Object)\\.(\\w+)")
            .matcher(code);
        while (used.find()) {
            Check.isTrue("the library has " + used.group(), LIBRARY.contains(used.group()));
        }
        Check.isTrue("no lambda", !code.contains("->"));
        Check.isTrue("no method reference", !code.contains("::"));
        for (String line : code.split("\n")) {
            boolean field = line.matches(" {8}final .* = new .*;");
            boolean constructor = line.matches(" {8}(program|flow|machine) = new .*;");
            Check.isTrue("rows are made in constructors: " + line, !line.contains("new ") || field || constructor);
        }
    }

    /** Rules 2, 5 and 11: what classes and methods may have. */
    private static void sizes() throws IOException {
        Class<?>[] inside = ArraySegments.class.getDeclaredClasses();
        Check.isTrue("twelve classes at most", inside.length <= 11);
        classSizes(ArraySegments.class);
        for (Class<?> one : inside) {
            Check.isTrue(one.getName() + " is static", Modifier.isStatic(one.getModifiers()));
            Check.isTrue(one.getName() + " is final, so that none overrides what its constructor calls",
                Modifier.isFinal(one.getModifiers()));
            Check.due(one.getName() + " has no class inside", one.getDeclaredClasses().length, 0);
            classSizes(one);
        }
        methodLengths(Files.readAllLines(SOURCE));
    }

    private static void methodLengths(List<String> lines) {
        Pattern head = Pattern.compile("( {4}| {8})(public|private|static|void|int|long|boolean)\\b[^=;]*\\) \\{");
        int many = 0;
        for (int at = 0; at < lines.size(); at++) {
            Matcher begins = head.matcher(lines.get(at));
            if (begins.matches()) {
                int ends = at;
                while (ends < lines.size() && !lines.get(ends).equals(begins.group(1) + "}")) {
                    ends++;
                }
                Check.isTrue("sixty lines at most: " + lines.get(at), ends - at < 60);
                many++;
            }
        }
        Check.isTrue("methods were found", many > 60);
    }

    private static void classSizes(Class<?> one) {
        int many = 0;
        for (Field field : one.getDeclaredFields()) {
            boolean isConstant = Modifier.isStatic(field.getModifiers());
            Check.isTrue(field.getName() + " is an int constant",
                !isConstant || Modifier.isFinal(field.getModifiers()) && field.getType() == int.class);
            many += isConstant ? 0 : 1;
        }
        Check.isTrue(one.getName() + " has twenty fields at most", many <= 20);
        for (Method method : one.getDeclaredMethods()) {
            Check.isTrue(method.getName() + " has seven parameters at most", method.getParameterCount() <= 7);
        }
    }

    private static void wildCalls(long seed) {
        Random random = new Random(seed);
        ArraySegments x = new ArraySegments();
        for (int call = 0; call < 511; call++) {
            oneCall(x, random);
        }
        Check.isTrue("never more than forty", x.told(0) <= 40);
    }

    private static int wild(Random random) {
        int[] ends = {Integer.MIN_VALUE, Integer.MAX_VALUE, -1, 0, 40, 12, -1000000, 1000000, 64, 63};
        return random.nextInt(8) == 0 ? ends[random.nextInt(ends.length)] : random.nextInt(6);
    }

    private static void oneCall(ArraySegments x, Random random) {
        int a = wild(random);
        int b = wild(random);
        int c = wild(random);
        int d = wild(random);
        int e = wild(random);
        switch (random.nextInt(26)) {
            case 0 -> Check.isTrue("clear", random.nextInt(20) != 0 || x.clear() >= 0);
            case 1 -> x.drop(random.nextInt(41));
            case 2 -> x.reached(random.nextInt(50) - 5);
            case 3 -> x.throwsAt(random.nextInt(50) - 5);
            case 4 -> x.ends();
            case 5 -> x.variable(a, b);
            case 6 -> x.reference(a);
            case 7 -> x.means(a, random.nextInt(50) - 5);
            case 8 -> x.array(random.nextInt(50) - 5, b);
            case 9 -> x.segment(random.nextInt(50) - 5, b, c);
            case 10 -> x.status();
            case 11 -> x.run(random.nextLong());
            case 12 -> x.where();
            case 13 -> x.value(a);
            case 14 -> x.place(a, b);
            case 15 -> x.length(a);
            case 16 -> x.same(a, b);
            case 17 -> Check.due("holds", x.holds(random.nextLong()), 1);
            case 18 -> x.told(a);
            case 19 -> x.drop(a);
            case 20 -> x.segment(a, b, c);
            default -> x.act(random.nextInt(17) - 1, a, b, c, d, e);
        }
    }
}
