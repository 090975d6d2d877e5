import java.io.IOException;
import java.nio.file.Files;
import java.nio.file.Path;
import java.util.TreeMap;
import java.util.TreeSet;
import java.util.regex.Pattern;
import java.util.stream.Stream;

/** The files that tests look at; .ci/run says where they are, else they are sought from the root of the checkout. */
final class Papers {
    static final Path ROOT = Path.of(System.getProperty("root", "."));
    static final Path SHARED = Path.of(System.getProperty("shared", ROOT.resolve("../shared").toString()));
    static final Path TESTS = ROOT.resolve("src/test/java");
    private static final Pattern MAIN = Pattern.compile("(?m)^ *public static void main\\(String");

    private Papers() {
    }

    static String read(Path path) throws IOException {
        return Files.readString(path);
    }

    /** Texts of the Java files of a directory, by their names without the end. */
    static TreeMap<String, String> javaIn(Path directory) throws IOException {
        TreeMap<String, String> texts = new TreeMap<>();
        try (Stream<Path> files = Files.walk(directory)) {
            for (Path file : (Iterable<Path>) files::iterator) {
                String name = file.getFileName().toString();
                if (name.endsWith(".java")) {
                    texts.put(name.substring(0, name.length() - 5), read(file));
                }
            }
        }
        return texts;
    }

    /** Names of those Java files of a directory that can be run. */
    static TreeSet<String> runnableIn(Path directory) throws IOException {
        TreeSet<String> names = new TreeSet<>();
        for (var file : javaIn(directory).entrySet()) {
            if (MAIN.matcher(file.getValue()).find()) {
                names.add(file.getKey());
            }
        }
        return names;
    }
}
