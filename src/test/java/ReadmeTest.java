import java.io.ByteArrayOutputStream;
import java.io.IOException;
import java.io.PrintStream;
import java.lang.reflect.Method;
import java.lang.reflect.Modifier;
import java.net.URL;
import java.net.URLClassLoader;
import java.nio.file.Files;
import java.nio.file.Path;
import java.util.List;
import java.util.stream.Stream;
import javax.tools.ToolProvider;

/** README.md: its program compiles and prints what the page says; the page names each call and each test. */
public final class ReadmeTest {
    public static void main(String[] args) throws Exception {
        String page = Files.readString(Path.of("README.md"));
        callsAreNamed(page);
        testsAreNamed(page);
        exampleHolds(page);
        Check.end();
    }

    private static void callsAreNamed(String page) {
        Check.about("README.md names each call, with as many arguments as it takes");
        for (Method method : SingingWires.class.getDeclaredMethods()) {
            if (Modifier.isPublic(method.getModifiers())) {
                int takes = method.getParameterCount();
                String row = "\\| `" + method.getName() + "\\("
                        + (takes == 0 ? "" : "\\w+" + ", \\w+".repeat(takes - 1)) + "\\)` \\|";
                long rows = page.lines().filter(line -> line.matches(row + ".*")).count();
                Check.due(method.getName(), rows, 1);
            }
        }
    }

    private static void testsAreNamed(String page) throws IOException {
        Check.about("README.md names each test");
        try (Stream<Path> files = Files.list(Path.of("src/test/java"))) {
            for (Path file : files.toList()) {
                String name = file.getFileName().toString().replace(".java", "");
                if (name.endsWith("Test")) {
                    Check.due(name, page.contains("`" + name + "`") ? 1 : 0, 1);
                }
            }
        }
    }

    private static void exampleHolds(String page) throws Exception {
        Check.about("README.md's program");
        Path folder = Files.createTempDirectory("readme");
        Path source = folder.resolve("Example.java");
        try {
            Files.writeString(source, block(page, "java"));
            int compiled = ToolProvider.getSystemJavaCompiler().run(null, null, null, "-encoding", "UTF-8", "-cp",
                    System.getProperty("java.class.path"), "-d", folder.toString(), source.toString());
            Check.due("compiles", compiled, 0);
            if (compiled == 0) {
                String printed = printedBy(folder);
                Check.due("prints\n" + printed, printed.equals(block(page, "text")) ? 1 : 0, 1);
            }
        } finally {
            for (Path file : List.of(source, folder.resolve("Example.class"), folder)) {
                Files.deleteIfExists(file);
            }
        }
    }

    /** The first block of this kind, or an empty text if there is none. */
    private static String block(String page, String kind) {
        String opening = "```" + kind + "\n";
        int from = page.indexOf(opening);
        int to = from < 0 ? -1 : page.indexOf("```", from + opening.length());
        return to < 0 ? "" : page.substring(from + opening.length(), to);
    }

    private static String printedBy(Path folder) throws Exception {
        PrintStream screen = System.out;
        ByteArrayOutputStream printed = new ByteArrayOutputStream();
        try (URLClassLoader loader = new URLClassLoader(new URL[] {folder.toUri().toURL()})) {
            System.setOut(new PrintStream(printed, true));
            loader.loadClass("Example").getMethod("main", String[].class).invoke(null, (Object) new String[0]);
        } finally {
            System.setOut(screen);
        }
        return printed.toString().replace("\r\n", "\n");
    }
}
