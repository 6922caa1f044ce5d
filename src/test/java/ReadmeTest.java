import java.io.IOException;
import java.lang.reflect.Executable;
import java.lang.reflect.Field;
import java.lang.reflect.Method;
import java.lang.reflect.Modifier;
import java.nio.file.Files;
import java.nio.file.Path;
import java.util.ArrayList;
import java.util.List;
import java.util.TreeMap;
import java.util.TreeSet;
import java.util.regex.Matcher;
import java.util.regex.Pattern;
import javax.tools.JavaCompiler;
import javax.tools.ToolProvider;

/** README.md tells each call and constant as it is, and its example answers what it says. */
public final class ReadmeTest {
    private static final Path README = Path.of("README.md");

    /** A line of the example that tells what a variable is: "int frame = ..; // answers 0: .." */
    private static final Pattern ANSWER =
            Pattern.compile("^\\w+ (\\w+) = .*;\\s*// answers (-?\\w+)", Pattern.MULTILINE);

    /** A row of a table: "| `add(port, tag)` | what it does | `IllegalStateException`: when |" */
    private static final Pattern ROW =
            Pattern.compile("^\\| `(\\w+)\\(([\\w, ]*)\\)` \\|(.*)\\|(.*)\\|$", Pattern.MULTILINE);

    private static final Pattern EXCEPTION = Pattern.compile("`(\\w+Exception)`: [^`]*");
    private static final Pattern CONSTANT = Pattern.compile("`([A-Z]+)` = (-?\\d+)");

    private static int wrong = 0;

    public static void main(String[] args) throws Exception {
        String text = Files.readString(README);
        compare("a call", callsIn(text), callsOfTheClass());
        compare("a constant", constantsIn(text), constantsOfTheClass());
        runExample(text);
        System.out.println(wrong == 0 ? "README.md tells what holds" : wrong + " lines of README.md are wrong");
        if (wrong != 0) {
            System.exit(1);
        }
    }

    private static void compare(String what, List<String> told, List<String> due) {
        for (String one : new TreeSet<>(due)) {
            if (!told.contains(one)) {
                tell("does not tell " + what + ": " + one);
            }
        }
        for (String one : told) {
            if (!due.contains(one)) {
                tell("tells " + what + " that is not so: " + one);
            }
        }
        if (told.size() > due.size()) {
            tell("tells " + what + " twice");
        }
    }

    private static void tell(String what) {
        wrong++;
        System.out.println(README + " " + what);
    }

    // ---- the calls, each as its name, how many arguments it has, and what it throws

    private static List<String> callsIn(String text) {
        List<String> calls = new ArrayList<>();
        Matcher row = ROW.matcher(text);
        while (row.find()) {
            int arguments = row.group(2).isEmpty() ? 0 : row.group(2).split(", ").length;
            List<String> thrown = new ArrayList<>();
            Matcher exception = EXCEPTION.matcher(row.group(4));
            while (exception.find()) {
                thrown.add(exception.group(1));
            }
            if (row.group(3).isBlank()) {
                tell("does not tell what " + row.group(1) + " does");
            }
            calls.add(row.group(1) + "/" + arguments + " " + thrown);
        }
        return calls;
    }

    private static List<String> callsOfTheClass() {
        List<String> calls = new ArrayList<>();
        for (Executable made : VlanProbe.class.getConstructors()) {
            calls.add(tellCall(made));
        }
        for (Method method : VlanProbe.class.getDeclaredMethods()) {
            if (Modifier.isPublic(method.getModifiers())) {
                calls.add(tellCall(method));
            }
        }
        return calls;
    }

    private static String tellCall(Executable call) {
        List<String> thrown = new ArrayList<>();
        for (Class<?> type : call.getExceptionTypes()) {
            thrown.add(type.getSimpleName());
        }
        return call.getName() + "/" + call.getParameterCount() + " " + thrown;
    }

    // ---- the constants, each with its value

    private static List<String> constantsIn(String text) {
        List<String> constants = new ArrayList<>();
        Matcher constant = CONSTANT.matcher(text);
        while (constant.find()) {
            constants.add(constant.group(1) + " = " + constant.group(2));
        }
        return constants;
    }

    private static List<String> constantsOfTheClass() throws IllegalAccessException {
        List<String> constants = new ArrayList<>();
        for (Field field : VlanProbe.class.getFields()) {
            constants.add(field.getName() + " = " + field.get(null));
        }
        return constants;
    }

    // ---- the example

    private static void runExample(String text) throws Exception {
        String example = exampleIn(text);
        TreeMap<String, String> due = new TreeMap<>();
        Matcher answer = ANSWER.matcher(example);
        while (answer.find()) {
            due.put(answer.group(1), answer.group(2));
        }
        if (due.isEmpty()) {
            tell("has no example with answers");
            return;
        }
        StringBuilder source = new StringBuilder("public final class Example {\n"
                + "public static void answer(java.util.Map<String, String> answers) {\n" + example);
        for (String name : due.keySet()) {
            source.append("answers.put(\"" + name + "\", String.valueOf(" + name + "));\n");
        }
        TreeMap<String, String> got = answersOf(source.append("}\n}\n").toString());
        if (!got.equals(due)) {
            tell("says that the example answers " + due + ", but it answers " + got);
        }
    }

    private static String exampleIn(String text) {
        int start = text.indexOf("```java\n");
        int end = text.indexOf("```", start + 8);
        return start < 0 || end < 0 ? "" : text.substring(start + 8, end);
    }

    private static TreeMap<String, String> answersOf(String source) throws Exception {
        TreeMap<String, String> answers = new TreeMap<>();
        Path place = Files.createTempDirectory("readme");
        try {
            Path file = Files.writeString(place.resolve("Example.java"), source);
            if (compile(file)) {
                Loader.define(Files.readAllBytes(place.resolve("Example.class")))
                        .getMethod("answer", java.util.Map.class).invoke(null, answers);
            } else {
                tell("has an example that can't be compiled");
            }
        } finally {
            Files.deleteIfExists(place.resolve("Example.java"));
            Files.deleteIfExists(place.resolve("Example.class"));
            Files.delete(place);
        }
        return answers;
    }

    private static boolean compile(Path file) throws IOException {
        JavaCompiler compiler = ToolProvider.getSystemJavaCompiler();
        if (compiler == null) {
            throw new IOException("there is no compiler");
        }
        return compiler.run(null, null, null, "--release", "17",
                "-cp", System.getProperty("java.class.path"), file.toString()) == 0;
    }

    /** Makes a class from its bytes; it finds VlanProbe where this test does. */
    private static final class Loader extends ClassLoader {
        private Loader() {
            super(ReadmeTest.class.getClassLoader());
        }

        static Class<?> define(byte[] bytes) {
            return new Loader().defineClass("Example", bytes, 0, bytes.length);
        }
    }
}
