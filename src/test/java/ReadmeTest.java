import java.io.File;
import java.io.IOException;
import java.lang.reflect.Field;
import java.lang.reflect.Method;
import java.lang.reflect.Modifier;
import java.nio.file.Files;
import java.nio.file.Path;
import java.util.ArrayList;
import java.util.List;
import java.util.Set;
import java.util.TreeSet;
import javax.tools.JavaCompiler;
import javax.tools.ToolProvider;

/** README.md against the class: its example, and its tables of constants and calls. */
public final class ReadmeTest {

    private static final Path README = Path.of("README.md");
    private static final Path TESTS = Path.of("src", "test", "java");

    private ReadmeTest() {
    }

    public static void main(String[] args) throws IOException, InterruptedException {
        List<String> page = Files.readAllLines(README);
        exampleAnswersAsItSays(page);
        constantsAreListed(page);
        callsAreListed(page);
        testsAreListed(page);
        Check.end();
    }

    // ---- the example

    private static void exampleAnswersAsItSays(List<String> page)
            throws IOException, InterruptedException {
        List<String> example = javaBlock(page);
        List<String> due = answersIn(example);
        Check.due("the example has answers", true, !due.isEmpty());
        Path place = Files.createTempDirectory("example");
        try {
            Path source = place.resolve("Example.java");
            Files.write(source, example);
            if (compiles(source, place)) {
                answersAre(due, run(place));
            } else {
                Check.report("the example does not compile");
            }
        } finally {
            remove(place);
        }
    }

    private static List<String> javaBlock(List<String> page) {
        List<String> block = new ArrayList<>();
        boolean inside = false;
        for (String row : page) {
            if (inside && row.equals("```")) {
                return block;
            }
            if (inside) {
                block.add(row);
            }
            inside |= row.equals("```java");
        }
        return block;
    }

    private static List<String> answersIn(List<String> example) {
        List<String> answers = new ArrayList<>();
        for (String row : example) {
            if (row.contains("println")) {
                answers.add(row.substring(row.indexOf("//") + 2).trim());
            }
        }
        return answers;
    }

    private static String classPath() {
        return System.getProperty("java.class.path");
    }

    private static boolean compiles(Path source, Path place) {
        JavaCompiler compiler = ToolProvider.getSystemJavaCompiler();
        return compiler != null && compiler.run(null, null, null, "--release", "17", "-cp",
                classPath(), "-d", place.toString(), source.toString()) == 0;
    }

    private static List<String> run(Path place) throws IOException, InterruptedException {
        Path printed = place.resolve("printed");
        String java = Path.of(System.getProperty("java.home"), "bin", "java").toString();
        Process process = new ProcessBuilder(java, "-cp",
                classPath() + File.pathSeparator + place, "Example")
                .redirectErrorStream(true).redirectOutput(printed.toFile()).start();
        Check.due("the example's exit code", 0, process.waitFor());
        return Files.readAllLines(printed);
    }

    private static void answersAre(List<String> due, List<String> got) {
        if (!got.equals(due)) {
            Check.report("the example printed " + got + ", due is " + due);
        }
    }

    private static void remove(Path place) throws IOException {
        File[] files = place.toFile().listFiles();
        if (files != null) {
            for (File file : files) {
                Files.delete(file.toPath());
            }
        }
        Files.delete(place);
    }

    // ---- the tables

    /** The cells of a row, trimmed; none if it is no row of a table. */
    private static List<String> cells(String row) {
        List<String> cells = new ArrayList<>();
        if (row.startsWith("| ") && row.endsWith(" |")) {
            for (String cell : row.substring(1, row.length() - 1).split("\\|")) {
                cells.add(cell.trim());
            }
        }
        return cells;
    }

    /** The rows whose first cell, behind its quote, starts like this. */
    private static List<List<String>> rowsOf(List<String> page, String start) {
        List<List<String>> rows = new ArrayList<>();
        for (String row : page) {
            List<String> cells = cells(row);
            if (!cells.isEmpty() && cells.get(0).startsWith("`" + start)) {
                rows.add(cells);
            }
        }
        return rows;
    }

    private static void constantsAreListed(List<String> page) {
        for (Field field : ThinSheets.class.getFields()) {
            String name = field.getName();
            List<List<String>> rows = rowsOf(page, name + "`");
            Check.due("rows of " + name, 1, rows.size());
            if (rows.size() == 1 && !rows.get(0).get(1).equals(valueOf(field))) {
                Check.report("README.md tells another value of " + name);
            }
        }
    }

    private static String valueOf(Field field) {
        try {
            return String.valueOf(field.getInt(null));
        } catch (IllegalAccessException notPublic) {
            return notPublic.toString();
        }
    }

    private static void callsAreListed(List<String> page) {
        int calls = 0;
        for (Method method : ThinSheets.class.getDeclaredMethods()) {
            if (Modifier.isPublic(method.getModifiers())) {
                calls++;
                callIsListed(page, method);
            }
        }
        int listed = 0;
        for (String row : page) {
            List<String> cells = cells(row);
            listed += !cells.isEmpty() && cells.get(0).endsWith(")`") ? 1 : 0;
        }
        Check.due("calls in README.md", calls, listed);
    }

    private static void callIsListed(List<String> page, Method method) {
        String name = method.getName();
        List<List<String>> rows = rowsOf(page, name + "(");
        Check.due("rows of " + name, 1, rows.size());
        if (rows.size() != 1) {
            return;
        }
        List<String> row = rows.get(0);
        Check.due("cells of " + name, 4, row.size());
        Check.due("arguments of " + name, method.getParameterCount(), argumentsIn(row.get(0)));
        Check.due("whether " + name + " returns nothing", method.getReturnType() == void.class,
                row.get(2).equals("nothing"));
        String thrown = thrownBy(method);
        String told = row.get(row.size() - 1).replaceAll(" \\([^)]*\\)", "");
        if (!told.equals(thrown)) {
            Check.report("README.md says that " + name + " throws " + told + ", due is " + thrown);
        }
    }

    private static int argumentsIn(String call) {
        String inside = call.substring(call.indexOf('(') + 1, call.indexOf(')'));
        return inside.isEmpty() ? 0 : inside.split(", ").length;
    }

    /** What a method declares, in its order, as the page calls it. */
    private static String thrownBy(Method method) {
        List<String> names = new ArrayList<>();
        for (Class<?> thrown : method.getExceptionTypes()) {
            names.add(shortName(thrown));
        }
        return names.isEmpty() ? "nothing" : String.join(", ", names);
    }

    private static String shortName(Class<?> thrown) {
        if (thrown == IndexOutOfBoundsException.class) {
            return "Index";
        }
        if (thrown == IllegalArgumentException.class) {
            return "Argument";
        }
        return thrown == IllegalStateException.class ? "State" : thrown.getName();
    }

    // ---- the list of tests

    private static void testsAreListed(List<String> page) {
        Set<String> listed = new TreeSet<>();
        boolean inside = false;
        for (String row : page) {
            inside = row.startsWith("- `") || inside && row.startsWith("  ");
            for (String word : inside ? row.split("`") : new String[0]) {
                if (word.matches("[A-Za-z]+Test")) {
                    listed.add(word);
                }
            }
        }
        Set<String> due = new TreeSet<>();
        String[] files = TESTS.toFile().list();
        for (String file : files == null ? new String[0] : files) {
            if (file.endsWith("Test.java")) {
                due.add(file.substring(0, file.length() - ".java".length()));
            }
        }
        if (!listed.equals(due)) {
            Check.report("README.md lists the tests " + listed + ", due are " + due);
        }
    }
}
