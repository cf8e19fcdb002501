import java.io.ByteArrayOutputStream;
import java.io.IOException;
import java.io.PrintStream;
import java.lang.reflect.Method;
import java.lang.reflect.Modifier;
import java.net.URL;
import java.net.URLClassLoader;
import java.nio.charset.StandardCharsets;
import java.nio.file.Files;
import java.nio.file.Path;
import java.util.Comparator;
import java.util.List;
import java.util.regex.Matcher;
import java.util.regex.Pattern;
import java.util.stream.Stream;
import javax.tools.ToolProvider;

/** README.md for somebody who has never seen the project: its program prints what it says, and it leaves out no call. */
public final class ReadmeTest {
    private static final Path README = Path.of("README.md");
    private static final Path TESTS = Path.of("src/test/java");

    public static void main(String[] args) throws Exception {
        String page = Files.readString(README);
        program(block(page, "java"), block(page, "text"));
        for (Method m : SitDown.class.getDeclaredMethods()) {
            if (Modifier.isPublic(m.getModifiers())) {
                Due.is("1 if it names the call " + m.getName(), page.contains("`" + m.getName() + "`") ? 1 : 0, 1);
            }
        }
        for (String test : tests()) {
            Due.is("1 if it names " + test, page.contains("`" + test + "`") ? 1 : 0, 1);
        }
        findings(page);
        Due.is("1 if it tells how all tests are run", page.contains("    .ci/run\n") ? 1 : 0, 1);
        Due.end();
    }

    private static String block(String page, String kind) {
        Matcher block = Pattern.compile("(?s)```" + kind + "\n(.*?)```").matcher(page);
        return block.find() ? block.group(1) : "";
    }

    private static List<String> tests() throws IOException {
        try (Stream<Path> files = Files.list(TESTS)) {
            return files.map(f -> f.getFileName().toString()).filter(f -> f.endsWith("Test.java"))
                .map(f -> f.substring(0, f.length() - 5)).sorted().toList();
        }
    }

    private static void findings(String page) {
        for (int i = 0; i < Script.FINDINGS.size(); i++) {
            String told = (-1000001 - i) + "\\s" + Script.FINDINGS.get(i);
            Due.is("1 if it tells " + told, Pattern.compile(told).matcher(page).find() ? 1 : 0, 1);
        }
    }

    private static void program(String code, String prints) throws Exception {
        Path folder = Files.createTempDirectory("readme");
        try {
            Path file = folder.resolve("First.java");
            Files.writeString(file, code);
            String path = System.getProperty("java.class.path");
            int compiled = ToolProvider.getSystemJavaCompiler().run(null, null, null,
                "-Xlint:all", "-Werror", "-cp", path, "-d", folder.toString(), file.toString());
            Due.is("compiling the program", compiled, 0);
            if (compiled == 0) {
                String got = printed(folder);
                Due.is("the program printed\n" + got + "1 if that is as told:", got.equals(prints) ? 1 : 0, 1);
            }
        } finally {
            remove(folder);
        }
    }

    private static String printed(Path folder) throws Exception {
        ByteArrayOutputStream bytes = new ByteArrayOutputStream();
        PrintStream before = System.out;
        try (URLClassLoader loader = new URLClassLoader(new URL[] {folder.toUri().toURL()});
                PrintStream out = new PrintStream(bytes, true, StandardCharsets.UTF_8)) {
            System.setOut(out);
            loader.loadClass("First").getMethod("main", String[].class).invoke(null, (Object) new String[0]);
        } finally {
            System.setOut(before);
        }
        return bytes.toString(StandardCharsets.UTF_8).replace(System.lineSeparator(), "\n");
    }

    private static void remove(Path folder) throws IOException {
        try (Stream<Path> files = Files.walk(folder)) {
            for (Path file : files.sorted(Comparator.reverseOrder()).toList()) {
                Files.delete(file);
            }
        }
    }
}
