import java.io.File;
import java.lang.reflect.Method;
import java.lang.reflect.Modifier;
import java.net.URL;
import java.net.URLClassLoader;
import java.nio.file.Files;
import java.nio.file.Path;
import java.util.ArrayList;
import java.util.HashMap;
import java.util.List;
import java.util.Map;
import java.util.TreeSet;
import java.util.regex.Matcher;
import java.util.regex.Pattern;
import javax.tools.ToolProvider;

/** What README.md says is true: its examples, and its tables of calls, constants and tests. */
final class ReadmeTest {
    private static final Checks C = new Checks("ReadmeTest");
    private static final Pattern EXAMPLE = Pattern.compile("(palette\\..*); +// (-?\\d+|[A-Z_]+)(:.*)?");
    private static final Pattern ROW = Pattern.compile("(?m)^\\| `(\\w+)\\(([^)]*)\\)` \\|.*$");
    private static final Pattern CONSTANT = Pattern.compile("\\b(UNKNOWN|OUT_OF_RANGE|FULL|NOT_POSSIBLE|NONE)\\b");
    /** Of each call, as the document's lines on returns and changes tell them. */
    private static final String[] ERRORS_AND_CHANGES = {
        "setColour UNKNOWN OUT_OF_RANGE NONE change", "blend UNKNOWN OUT_OF_RANGE NONE change", "freeze change",
        "addRange UNKNOWN OUT_OF_RANGE NOT_POSSIBLE FULL change", "removeRange UNKNOWN change",
        "setSpeed UNKNOWN OUT_OF_RANGE change", "run UNKNOWN NONE change",
        "addGlow UNKNOWN OUT_OF_RANGE NOT_POSSIBLE FULL change", "removeGlow UNKNOWN change", "pass OUT_OF_RANGE change",
        "perform UNKNOWN FULL change", "type FULL", "clearText", "paint UNKNOWN OUT_OF_RANGE NONE change",
        "fill UNKNOWN OUT_OF_RANGE NONE change", "undo NONE", "keep", "restore NONE change", "colour UNKNOWN",
        "shown UNKNOWN", "range UNKNOWN OUT_OF_RANGE", "glow UNKNOWN OUT_OF_RANGE", "pixel UNKNOWN", "total OUT_OF_RANGE",
        "shownIn UNKNOWN OUT_OF_RANGE", "fullTurn", "nearest OUT_OF_RANGE", "changes OUT_OF_RANGE", "pictureBack NONE",
        "contrast",
    };

    private final String readme = Files.readString(Path.of("README.md"));

    private ReadmeTest() throws Exception {
    }

    public static void main(String[] args) throws Exception {
        ReadmeTest test = new ReadmeTest();
        test.examples();
        test.calls();
        test.errorsAndChanges();
        test.constants();
        test.tests();
        C.end();
    }

    // ---- examples

    private void examples() throws Exception {
        List<String> calls = new ArrayList<>();
        List<String> due = new ArrayList<>();
        StringBuilder code = new StringBuilder();
        for (String line : exampleLines()) {
            Matcher example = EXAMPLE.matcher(line);
            if (example.matches()) {
                String constant = example.group(2).matches("[A-Z_]+") ? "PaletteTurns." : "";
                code.append("got.add((long) ").append(example.group(1)).append(");\n");
                calls.add(example.group(1));
                due.add("(long) " + constant + example.group(2));
            } else {
                C.holds("no answer is told in a line that is not understood: " + line, !line.contains("//"));
                code.append(line).append('\n');
            }
        }
        List<Long> got = carriedOut(code.toString());
        List<Long> want = carriedOut("got.addAll(java.util.List.of(" + String.join(", ", due) + "));\n");
        C.due("answers", got.size(), calls.size());
        for (int i = 0; i < Math.min(got.size(), want.size()); i++) {
            C.due("example " + i + ", " + calls.get(i), got.get(i), want.get(i));
        }
    }

    private List<String> exampleLines() {
        List<String> lines = new ArrayList<>();
        boolean isExample = false;
        for (String line : readme.split("\n")) {
            if (line.startsWith("```")) {
                isExample = line.equals("```java");
            } else if (isExample) {
                lines.add(line);
            }
        }
        return lines;
    }

    private static List<Long> carriedOut(String code) throws Exception {
        Path folder = Files.createTempDirectory("readme");
        Path source = folder.resolve("Examples.java");
        Files.writeString(source, "public final class Examples implements java.util.function.Supplier<java.util.List<Long>> {\n"
            + "public java.util.List<Long> get() {\njava.util.List<Long> got = new java.util.ArrayList<>();\n"
            + code + "return got;\n}\n}\n");
        int compiled = ToolProvider.getSystemJavaCompiler().run(null, null, null, "-d", folder.toString(),
            "-cp", System.getProperty("java.class.path"), source.toString());
        C.due("the compiler", compiled, 0);
        List<Long> got = new ArrayList<>();
        if (compiled == 0) {
            try (URLClassLoader loader = new URLClassLoader(new URL[] {folder.toUri().toURL()})) {
                Object made = loader.loadClass("Examples").getConstructor().newInstance();
                for (Object answer : (List<?>) ((java.util.function.Supplier<?>) made).get()) {
                    got.add((Long) answer);
                }
            }
        }
        for (File file : folder.toFile().listFiles()) {
            Files.delete(file.toPath());
        }
        Files.delete(folder);
        return got;
    }

    // ---- tables

    private void calls() {
        TreeSet<String> told = new TreeSet<>();
        Matcher row = ROW.matcher(readme);
        while (row.find()) {
            int arguments = row.group(2).isEmpty() ? 0 : row.group(2).split(",").length;
            C.holds(row.group(1) + " is told once", told.add(row.group(1) + " " + arguments));
        }
        TreeSet<String> there = new TreeSet<>();
        for (Method method : PaletteTurns.class.getDeclaredMethods()) {
            if (Modifier.isPublic(method.getModifiers())) {
                there.add(method.getName() + " " + method.getParameterCount());
            }
        }
        C.holds("calls told are " + told + ", there are " + there, told.equals(there));
    }

    /** The constants of each row in the order of the document's line, as the first one is answered. */
    private void errorsAndChanges() {
        Map<String, String> due = new HashMap<>();
        for (String call : ERRORS_AND_CHANGES) {
            due.put(call.split(" ")[0], call);
        }
        Matcher row = ROW.matcher(readme);
        while (row.find()) {
            String change = row.group().matches(".*\\| yes(, one)? \\|") ? " change" : "";
            C.holds("of " + row.group(1) + " is told: " + constantsOf(row.group()) + change,
                (row.group(1) + constantsOf(row.group()) + change).equals(due.get(row.group(1))));
        }
    }

    private static String constantsOf(String row) {
        StringBuilder constants = new StringBuilder();
        Matcher constant = CONSTANT.matcher(row);
        while (constant.find()) {
            constants.append(' ').append(constant.group());
        }
        return constants.toString();
    }

    private void constants() {
        int[] numbers = {PaletteTurns.UNKNOWN, PaletteTurns.OUT_OF_RANGE, PaletteTurns.FULL, PaletteTurns.NOT_POSSIBLE,
            PaletteTurns.NONE};
        String[] names = {"UNKNOWN", "OUT_OF_RANGE", "FULL", "NOT_POSSIBLE", "NONE"};
        for (int i = 0; i < names.length; i++) {
            C.holds(names[i] + " is told", readme.contains("| " + numbers[i] + " | `" + names[i] + "` |"));
        }
    }

    private void tests() {
        TreeSet<String> there = new TreeSet<>();
        for (File file : new File("src/test/java").listFiles()) {
            if (file.getName().endsWith("Test.java")) {
                there.add(file.getName().replace(".java", ""));
            }
        }
        TreeSet<String> told = new TreeSet<>();
        Matcher name = Pattern.compile("`(\\w+Test)`").matcher(readme);
        while (name.find()) {
            told.add(name.group(1));
        }
        C.holds("tests told are " + told + ", there are " + there, told.equals(there));
    }
}
