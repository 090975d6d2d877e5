import java.lang.reflect.Method;
import java.lang.reflect.Modifier;
import java.nio.file.Files;
import java.nio.file.Path;
import java.util.List;
import java.util.Set;
import java.util.TreeSet;
import java.util.regex.Matcher;
import java.util.regex.Pattern;

/** README.md says the truth: its example answers so, and the command that it gives for the tests runs them all. */
public final class ReadmeTest {
    private static final Check CHECK = new Check("ReadmeTest");

    public static void main(String[] args) throws Exception {
        String readme = Papers.read(Papers.ROOT.resolve("README.md"));
        example(readme);
        calls(readme);
        command(part(readme, "## How to run its tests"));
        runsAll();
        table(part(readme, "## How to run its tests"));
        CHECK.end();
    }

    private static String part(String readme, String heading) {
        int from = readme.indexOf(heading + "\n");
        CHECK.holds("there is a part " + heading, from >= 0);
        int to = readme.indexOf("\n## ", from + 1);
        return readme.substring(Math.max(from, 0), to < 0 ? readme.length() : to);
    }

    /** Each call of the example says its answer behind two strokes. */
    private static void example(String readme) {
        Matcher block = Pattern.compile("(?s)```java\\n(.*?)```").matcher(readme);
        if (!block.find()) {
            CHECK.holds("there is an example", false);
            return;
        }
        Matcher text = Pattern.compile("String text = \"([^\"]*)\";").matcher(block.group(1));
        CHECK.holds("the example has a text", text.find());
        Script.Counted x = new Script.Counted();
        for (char c : text.group(1).toCharArray()) {
            x.ask("feed", (int) c);
        }
        Matcher call = Pattern.compile("(?m)^x\\.(\\w+)\\(([-\\d, ]*)\\);(?: +// (-?\\d+)\\b)?.*$").matcher(block.group(1));
        int calls = 0;
        while (call.find()) {
            calls++;
            Object[] numbers = call.group(2).isEmpty() ? new Object[0]
                : Pattern.compile(", ").splitAsStream(call.group(2)).map(Integer::valueOf).toArray();
            long got = x.ask(call.group(1), numbers);
            CHECK.holds("an answer is told: " + call.group(), call.group(3) != null);
            CHECK.due(call.group(), got, call.group(3) == null ? got : Long.parseLong(call.group(3)));
        }
        CHECK.holds("the example has calls: " + calls, calls >= 6);
    }

    private static void calls(String readme) {
        String part = part(readme, "## Its calls");
        for (Method m : LentGrannies.class.getDeclaredMethods()) {
            if (Modifier.isPublic(m.getModifiers())) {
                Matcher named = Pattern.compile("`" + m.getName() + "\\(([^)]*)\\)`").matcher(part);
                CHECK.holds(m.getName() + " is told once, with as many numbers", named.find()
                    && (named.group(1).isEmpty() ? 0 : named.group(1).split(", ").length) == m.getParameterCount()
                    && !named.find());
            }
        }
    }

    /** The command is the line of code that comes first; it is the very script that runs this test. */
    private static void command(String part) throws Exception {
        Matcher line = Pattern.compile("(?m)^ {4}(\\S.*)$").matcher(part);
        boolean given = line.find();
        CHECK.holds("a command is given", given);
        if (!given) {
            return;
        }
        Path script = Papers.ROOT.resolve(line.group(1)).toAbsolutePath();
        boolean there = Files.isExecutable(script);
        CHECK.holds(script + " is there and can be run", there);
        CHECK.holds("no other command is given", !line.find());
        String running = System.getProperty("script");
        if (there && running != null) {
            CHECK.holds(running + " is the command", Files.isSameFile(script, Path.of(running)));
        }
    }

    private static void runsAll() throws Exception {
        Set<String> own = Papers.runnableIn(Papers.TESTS);
        CHECK.holds("all of the project's tests are run: " + own, own.equals(named("own", own)));
        Set<String> given = Papers.javaIn(Papers.SHARED.resolve("tests")).keySet();
        CHECK.holds("all tests under ../shared/tests are run: " + given, given.equals(named("given", given)));
    }

    /** What .ci/run says that it runs; where nothing is said, this test was run by hand. */
    private static Set<String> named(String property, Set<String> otherwise) {
        String names = System.getProperty(property);
        return names == null ? otherwise : new TreeSet<>(List.of(names.trim().split("\\s+")));
    }

    private static void table(String part) throws Exception {
        Set<String> told = new TreeSet<>();
        Matcher name = Pattern.compile("`(\\w+Test)`").matcher(part);
        while (name.find()) {
            told.add(name.group(1));
        }
        Set<String> own = Papers.runnableIn(Papers.TESTS);
        CHECK.holds("README tells of " + told + ", there are " + own, told.equals(own));
    }
}
