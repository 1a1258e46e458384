import java.io.ByteArrayOutputStream;
import java.io.IOException;
import java.io.PrintStream;
import java.lang.reflect.Method;
import java.lang.reflect.Modifier;
import java.net.URL;
import java.net.URLClassLoader;
import java.nio.file.Files;
import java.nio.file.Path;
import java.util.Comparator;
import java.util.List;
import java.util.stream.Stream;
import javax.tools.ToolProvider;

/** README.md's example compiles and prints what the page says, and its table names every call of the face. */
public final class ReadmeTest {
    private static int wrong;

    private ReadmeTest() {
    }

    private static void rule(boolean kept, String what) {
        if (!kept) {
            wrong++;
            System.out.println("README.md: " + what);
        }
    }

    private static String block(String page, String language) {
        String mark = "```" + language + "\n";
        int from = page.indexOf(mark);
        int to = from < 0 ? -1 : page.indexOf("```", from + mark.length());
        return to < 0 ? "" : page.substring(from + mark.length(), to);
    }

    private static void remove(Path folder) throws IOException {
        List<Path> all;
        try (Stream<Path> walk = Files.walk(folder)) {
            all = walk.sorted(Comparator.reverseOrder()).toList();
        }
        for (Path one : all) {
            Files.delete(one);
        }
    }

    /** What the example prints; it is compiled in a folder of its own, against the StackKeys of this run. */
    private static String printed(String source, Path folder) throws IOException, ReflectiveOperationException {
        Path file = folder.resolve("Example.java");
        Files.writeString(file, source);
        int failed = ToolProvider.getSystemJavaCompiler().run(null, null, null, "-cp",
                System.getProperty("java.class.path"), "-d", folder.toString(), file.toString());
        rule(failed == 0, "the example does not compile");
        if (failed != 0) {
            return "";
        }
        ByteArrayOutputStream bytes = new ByteArrayOutputStream();
        PrintStream shown = System.out;
        try (URLClassLoader loader = new URLClassLoader(new URL[] {folder.toUri().toURL()})) {
            Method main = loader.loadClass("Example").getMethod("main", String[].class);
            System.setOut(new PrintStream(bytes));
            main.invoke(null, (Object) new String[0]);
        } finally {
            System.out.flush();
            System.setOut(shown);
        }
        return bytes.toString().replace("\r\n", "\n");
    }

    private static void example(String page) throws IOException, ReflectiveOperationException {
        Path folder = Files.createTempDirectory("readme");
        try {
            String got = printed(block(page, "java"), folder);
            String told = block(page, "text");
            rule(!told.isEmpty(), "no text block tells what the example prints");
            rule(got.equals(told), "the example prints\n" + got + "but the page says\n" + told);
        } finally {
            remove(folder);
        }
    }

    private static void table(String page) {
        String rows = String.join("\n", page.lines().filter(line -> line.startsWith("|")).toList());
        for (Method m : StackKeys.class.getDeclaredMethods()) {
            if (Modifier.isPublic(m.getModifiers())) {
                rule(rows.contains("`" + m.getName() + "`"), "no row of the table names " + m.getName());
            }
        }
    }

    public static void main(String[] args) throws IOException, ReflectiveOperationException {
        String page = Files.readString(Path.of("README.md"));
        example(page);
        table(page);
        System.out.println(wrong == 0 ? "README.md tells what is so" : wrong + " faults of README.md");
        if (wrong > 0) {
            System.exit(1);
        }
    }
}
