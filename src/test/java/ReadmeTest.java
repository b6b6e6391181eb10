import java.io.ByteArrayOutputStream;
import java.io.File;
import java.io.PrintStream;
import java.lang.reflect.Method;
import java.lang.reflect.Modifier;
import java.net.URL;
import java.net.URLClassLoader;
import java.nio.charset.StandardCharsets;
import java.nio.file.Files;
import java.nio.file.Path;
import java.util.Set;
import java.util.TreeSet;
import java.util.regex.Matcher;
import java.util.regex.Pattern;
import javax.tools.ToolProvider;

/** What README.md says: its program and what this prints, the calls, and the tests. */
public final class ReadmeTest {
    private static int wrong = 0;

    private static void refuse(String what) {
        wrong++;
        System.out.println(what);
    }

    private static String block(String readme, String kind) {
        Matcher found = Pattern.compile("(?s)\n```" + kind + "\n(.*?)```\n").matcher(readme);
        if (!found.find()) {
            refuse("README.md has no block of " + kind);
            return "";
        }
        return found.group(1);
    }

    private static String printedBy(Class<?> program) throws Exception {
        PrintStream before = System.out;
        ByteArrayOutputStream printed = new ByteArrayOutputStream();
        System.setOut(new PrintStream(printed, true, StandardCharsets.UTF_8));
        try {
            program.getMethod("main", String[].class).invoke(null, (Object) new String[0]);
        } finally {
            System.setOut(before);
        }
        return printed.toString(StandardCharsets.UTF_8).replace(System.lineSeparator(), "\n");
    }

    private static void checkProgram(String readme) throws Exception {
        Path place = Files.createTempDirectory("readme");
        Path source = Files.writeString(place.resolve("Example.java"), block(readme, "java"));
        String classes = System.getProperty("java.class.path");
        int code = ToolProvider.getSystemJavaCompiler().run(null, null, null,
                "-Xlint:all", "-cp", classes, "-d", place.toString(), source.toString());
        if (code != 0) {
            refuse("the program of README.md does not compile");
        } else {
            try (URLClassLoader loader = new URLClassLoader(new URL[] {place.toUri().toURL()})) {
                compareLines(printedBy(loader.loadClass("Example")), block(readme, "text"));
            }
        }
        for (File made : place.toFile().listFiles()) {
            Files.delete(made.toPath());
        }
        Files.delete(place);
    }

    private static void compareLines(String got, String want) {
        String[] gotLines = got.split("\n");
        String[] wantLines = want.split("\n");
        if (gotLines.length != wantLines.length) {
            refuse("the program prints " + gotLines.length + " lines, README.md has " + wantLines.length);
        }
        for (int i = 0; i < Math.min(gotLines.length, wantLines.length); i++) {
            if (!gotLines[i].equals(wantLines[i])) {
                refuse("the program prints '" + gotLines[i] + "', README.md has '" + wantLines[i] + "'");
            }
        }
    }

    /** The names of arguments are not looked at, as the class does not keep them. */
    private static void checkCalls(String readme) {
        Set<String> told = new TreeSet<>();
        Matcher row = Pattern.compile("\n\\| `(\\w+ \\w+)\\(([^)]*)\\)` \\|").matcher(readme);
        while (row.find()) {
            told.add(row.group(1) + "(" + row.group(2).replaceAll("(\\w+) \\w+", "$1") + ")");
        }
        Set<String> has = new TreeSet<>();
        for (Method m : ChordPoints.class.getDeclaredMethods()) {
            if (Modifier.isPublic(m.getModifiers())) {
                StringBuilder types = new StringBuilder();
                for (Class<?> type : m.getParameterTypes()) {
                    types.append(types.length() == 0 ? "" : ", ").append(type.getName());
                }
                has.add(m.getReturnType().getName() + " " + m.getName() + "(" + types + ")");
            }
        }
        if (!told.equals(has)) {
            refuse("README.md tells the calls " + told + ", the class has " + has);
        }
    }

    private static void checkTests(String readme) {
        Set<String> told = new TreeSet<>();
        Matcher row = Pattern.compile("\n- `(\\w+)`:").matcher(readme);
        while (row.find()) {
            told.add(row.group(1) + ".java");
        }
        Set<String> has = new TreeSet<>(Set.of(new File("src/test/java").list()));
        if (!told.equals(has)) {
            refuse("README.md tells the tests " + told + ", there are " + has);
        }
    }

    public static void main(String[] args) throws Exception {
        String readme = Files.readString(Path.of("README.md")).replace("\r\n", "\n");
        checkProgram(readme);
        checkCalls(readme);
        checkTests(readme);
        System.out.println(wrong == 0 ? "README.md is so" : wrong + " wrong in README.md");
        if (wrong != 0) {
            System.exit(1);
        }
    }
}
