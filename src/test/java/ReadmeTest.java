import java.io.File;
import java.io.IOException;
import java.net.URL;
import java.net.URLClassLoader;
import java.nio.file.Files;
import java.nio.file.Path;
import java.util.ArrayList;
import java.util.LinkedHashMap;
import java.util.List;
import java.util.Map;
import java.util.TreeSet;
import java.util.function.Supplier;
import java.util.regex.Matcher;
import java.util.regex.Pattern;
import java.util.stream.Stream;
import javax.tools.ToolProvider;

/** What README.md says holds of the class, of the document and of the folder of the tests. */
public final class ReadmeTest {
    private static final Path README = Path.of("README.md");
    private static final Path DOCUMENT = Path.of("../shared/DOC.md");
    private static final Path TESTS = Path.of("src/test/java");
    private static final String EXAMPLE = "ReadmeExample";

    private static final Pattern BLOCK = Pattern.compile("(?s)```java\n(.*?)```");
    private static final Pattern ASKED =
        Pattern.compile("(towns\\.\\w+\\(.*\\)); *// (-?\\d+(?:\\.\\d+)?):.*");
    private static final Pattern ROW =
        Pattern.compile("(?m)^\\| `(\\w+)\\((.*?)\\)` \\| (.*) \\| (.*) \\|$");
    private static final Pattern CODE =
        Pattern.compile("NO_SUCH|BAD_VALUE|TOO_MANY|NOT_POSSIBLE|-100 minus the fault");
    private static final Pattern CONSTANT =
        Pattern.compile("(?m)^\\| `([A-Z_]+)` \\| (-\\d+) \\| (.*) \\|$");
    private static final Pattern PROMISE =
        Pattern.compile("(?s)`(?:int|double) (\\w+)\\((.*?)\\)`.*(Returns [^\n]*)");
    private static final Pattern JAVA_FILE = Pattern.compile("(\\w+\\.java)`");

    private static final Due due = new Due();

    public static void main(String[] args) throws IOException, ReflectiveOperationException {
        String page = Files.readString(README);
        example(page);
        table(page);
        constants(page);
        files(page);
        due.begin("What it is, \"An object is used for at most 512 calls after it has been made\"");
        due.isTrue("that the page says it", page.contains("at most 512 calls after it has been"));
        due.end();
    }

    /** The answers that stand behind the lines of the example are those of the class. */
    private static void example(String page) throws IOException, ReflectiveOperationException {
        due.begin("README.md, the example");
        List<String> calls = new ArrayList<>();
        List<Double> wants = new ArrayList<>();
        StringBuilder body = new StringBuilder();
        Matcher block = BLOCK.matcher(page);
        while (block.find()) {
            body.append("{\n");
            for (String line : block.group(1).split("\n")) {
                Matcher asked = ASKED.matcher(line);
                if (asked.matches()) {
                    body.append("got[").append(calls.size()).append("] = ")
                        .append(asked.group(1)).append(";\n");
                    calls.add(asked.group(1));
                    wants.add(Double.valueOf(asked.group(2)));
                } else {
                    body.append(line).append('\n');
                }
            }
            body.append("}\n");
        }
        due.isTrue("that it has answers", !calls.isEmpty());
        double[] got = answersOf(body.toString(), calls.size());
        for (int i = 0; i < calls.size(); i++) {
            due.is(calls.get(i), got[i], wants.get(i));
        }
    }

    private static double[] answersOf(String body, int many)
            throws IOException, ReflectiveOperationException {
        Path folder = Files.createTempDirectory("readme");
        Path source = folder.resolve(EXAMPLE + ".java");
        Path compiled = folder.resolve(EXAMPLE + ".class");
        try {
            Files.writeString(source, "public final class " + EXAMPLE
                + " implements java.util.function.Supplier<double[]> {\n"
                + "public double[] get() {\ndouble[] got = new double[" + many + "];\n"
                + body + "return got;\n}\n}\n");
            int exit = ToolProvider.getSystemJavaCompiler().run(null, null, null, "-cp",
                System.getProperty("java.class.path") + File.pathSeparator + folder,
                source.toString());
            due.is("the compiler", exit, 0);
            return exit == 0 ? run(folder) : new double[many];
        } finally {
            Files.deleteIfExists(source);
            Files.deleteIfExists(compiled);
            Files.deleteIfExists(folder);
        }
    }

    private static double[] run(Path folder) throws IOException, ReflectiveOperationException {
        URL[] places = {folder.toUri().toURL()};
        try (URLClassLoader loader = new URLClassLoader(places)) {
            Object made = loader.loadClass(EXAMPLE).getConstructor().newInstance();
            return (double[]) ((Supplier<?>) made).get();
        }
    }

    /** Each call has a row, whose error codes are those of its promise, in the same order. */
    private static void table(String page) throws IOException {
        Map<String, Matcher> rows = new LinkedHashMap<>();
        Matcher row = ROW.matcher(page);
        while (row.find()) {
            Matcher kept = ROW.matcher(row.group());
            due.begin("README.md, the row of " + row.group(1));
            due.isTrue("that it can be read", kept.matches());
            due.isTrue("that it is the only one", rows.put(row.group(1), kept) == null);
        }
        due.begin("README.md, the table of the calls");
        due.is("its rows", rows.size(), 25);
        if (!Files.isReadable(DOCUMENT)) {
            System.out.println(DOCUMENT + " is not there: the rows are not held against it");
            return;
        }
        for (String section : Files.readString(DOCUMENT).split("(?m)^## ")) {
            Matcher promise = PROMISE.matcher(section);
            if (section.startsWith("Promise ") && promise.find()) {
                String title = section.substring(0, section.indexOf('\n'));
                due.begin(title + ", \"" + promise.group(3) + "\", in README.md");
                heldAgainst(promise, section, rows.get(promise.group(1)));
            }
        }
    }

    private static void heldAgainst(Matcher promise, String section, Matcher row) {
        due.isTrue("that it has a row", row != null);
        if (row != null) {
            String arguments = promise.group(2).replaceAll("int ", "");
            due.isTrue("the arguments " + row.group(2), row.group(2).equals(arguments));
            List<String> want = codes(promise.group(3));
            due.isTrue("the error codes " + want, codes(row.group(4)).equals(want));
            due.isTrue("that none is named where there is none",
                row.group(4).equals("none") == want.isEmpty());
            due.isTrue("that NONE is an answer or is not",
                row.group(3).contains("NONE") == section.contains("NONE"));
            due.isTrue("that 0.0 is an answer or is not",
                row.group(3).contains("0.0") == section.contains("0.0"));
        }
    }

    private static List<String> codes(String text) {
        List<String> codes = new ArrayList<>();
        Matcher code = CODE.matcher(text);
        while (code.find()) {
            codes.add(code.group());
        }
        return codes;
    }

    /** The values are those of the class, the meanings begin as the document says them. */
    private static void constants(String page) throws IOException, ReflectiveOperationException {
        String said = Files.isReadable(DOCUMENT) ? Files.readString(DOCUMENT) : "";
        Matcher constant = CONSTANT.matcher(page);
        int rows = 0;
        while (constant.find()) {
            rows++;
            String name = constant.group(1);
            due.begin("Errors, \"" + name + "\", in README.md");
            int value = BellTowns.class.getField(name).getInt(null);
            due.is("its value", Integer.parseInt(constant.group(2)), value);
            String meaning = constant.group(3).split("[.:;]")[0];
            due.isTrue("its meaning", said.isEmpty()
                || said.contains("`" + name + " = " + value + "`: " + meaning));
        }
        due.begin("README.md, the table of the constants");
        due.is("its rows", rows, 5);
    }

    /** Each file of the tests is named, and no other one. */
    private static void files(String page) throws IOException {
        due.begin("README.md, the files");
        TreeSet<String> named = new TreeSet<>();
        Matcher file = JAVA_FILE.matcher(page);
        while (file.find()) {
            named.add(file.group(1));
        }
        TreeSet<String> there = new TreeSet<>(List.of("BellTowns.java"));
        try (Stream<Path> files = Files.list(TESTS)) {
            files.forEach(path -> there.add(path.getFileName().toString()));
        }
        due.isTrue("the names " + named + ", there are " + there, named.equals(there));
    }
}
