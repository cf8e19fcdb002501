import java.io.IOException;
import java.nio.file.Files;
import java.nio.file.Path;
import java.util.ArrayList;
import java.util.HashMap;
import java.util.List;
import java.util.Map;
import java.util.stream.Stream;

/**
 * Boundary cases, sentence by sentence, from the files of src/test/edges.
 *
 * <p>"== part | words | case" begins a test: the promise's number (or T and a section of Terms), words of the document
 * that must stand in that part, and the case. ":: name" begins rows that tests take by "use name". "#" is a remark.
 */
public final class EdgesTest {
    private static final Path EDGES = Path.of("src/test/edges");
    private static final Path DOC = Path.of("../shared/DOC.md");

    private final Document document;
    private final Map<String, List<Script.Call>> scenes = new HashMap<>();
    private int tests = 0;
    private String label = "";
    private List<Script.Call> calls = new ArrayList<>();

    private EdgesTest(Document document) {
        this.document = document;
    }

    public static void main(String[] args) throws IOException {
        EdgesTest test = new EdgesTest(new Document(DOC));
        Due.is("parts of the document", test.document.size(), 57 + 9);
        List<Path> files;
        try (Stream<Path> all = Files.list(EDGES)) {
            files = all.filter(f -> f.toString().endsWith(".txt")).sorted().toList();
        }
        for (Path file : files) {
            test.readFile(file);
        }
        for (String words : test.document.unquoted()) {
            Due.is("tests of '" + words + "'", 0, 1);
        }
        System.out.println(test.tests + " tests of edges");
        Due.end();
    }

    private void readFile(Path file) throws IOException {
        List<String> lines = Files.readAllLines(file);
        scenes.clear();
        for (int i = 0; i < lines.size(); i++) {
            String line = lines.get(i).stripLeading();
            try {
                readLine(line);
            } catch (RuntimeException e) {
                Due.is(file.getFileName() + " line " + (i + 1) + ": " + e, 0, 1);
            }
        }
        endTest();
    }

    private void readLine(String line) {
        if (line.startsWith("== ")) {
            endTest();
            beginTest(line.substring(3).split(" \\| "));
        } else if (line.startsWith(":: ")) {
            endTest();
            calls = new ArrayList<>();
            scenes.put(line.substring(3), calls);
        } else if (line.startsWith("use ")) {
            List<Script.Call> scene = scenes.get(line.substring(4));
            if (scene == null) {
                throw new IllegalArgumentException("no such rows");
            }
            calls.addAll(scene);
        } else if (!line.isBlank() && !line.startsWith("#")) {
            for (String row : line.startsWith("tape(") ? new String[] {line} : line.split("; +")) {
                calls.addAll(Script.read(row));
            }
        }
    }

    private void beginTest(String[] told) {
        if (told.length != 3) {
            throw new IllegalArgumentException("part | words | case");
        }
        label = "promise " + told[0] + ", '" + told[1] + "', " + told[2];
        calls = new ArrayList<>();
        Due.is(label + ": 1 if the document says so", document.quote(told[0], told[1]), 1);
    }

    private void endTest() {
        if (!label.isEmpty()) {
            tests++;
            Due.is(label + ": 1 if an answer is due", calls.stream().anyMatch(Script.Call::hasDue) ? 1 : 0, 1);
            Script.go(label, calls);
        }
        label = "";
    }
}
