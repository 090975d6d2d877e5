import java.lang.reflect.Field;
import java.lang.reflect.Modifier;
import java.nio.file.Files;
import java.nio.file.Path;
import java.util.List;
import java.util.regex.Matcher;
import java.util.regex.Pattern;

/** What of LANGUAGE.md can be seen in the text of the program; the path is given as -Dprogram. */
public final class RulesTest {
    private static final Check CHECK = new Check("RulesTest");
    private static final String[] BANNED = {
        "\\bthrow\\b", "\\bthrows\\b", "\\btry\\b", "\\bcatch\\b", "\\bsynchronized\\b", "\\bassert\\b", "->", "::",
        "\\bpackage\\b", "\\bprotected\\b", "\\bimport\\s+(?!java\\.util\\.)", "\\bThread\\b", "\\bSystem\\.(?!arraycopy)",
        "Exact\\b", "\\bhashCode\\b", "\\bequals\\b", "\\btoString\\b", "\\bstatic\\s*\\{", "\\bObject\\b", "\\bvar\\b",
        "\\bRandom\\b", "\\bStream\\b", "[^\\x00-\\x7f]", "while\\s*\\(true", "for\\s*\\(;;"};

    private static final List<String> LIBRARY =
        List.of("Math.max", "Math.min", "Integer.bitCount", "System.arraycopy");

    public static void main(String[] args) throws Exception {
        String path = System.getProperty("program", "src/main/java/LentGrannies.java");
        String text = Files.readString(Path.of(path));
        String code = text.replaceAll("(?s)/\\*.*?\\*/", " ").replaceAll("//[^\\n]*", " ").replaceAll("'.'", "'_'");
        for (String banned : BANNED) {
            Matcher m = Pattern.compile(banned).matcher(code);
            CHECK.holds("the program has " + banned, !m.find());
        }
        classes(code);
        fields(LentGrannies.class);
        methods(code);
        library(code);
        madeInConstructorsAlone(code);
        CHECK.end();
    }

    /** All calls of one run live in one room, so no call makes an object: rows are made with what holds them. */
    private static void madeInConstructorsAlone(String code) {
        String rest = code.replaceAll("(?s)\\n    public LentGrannies\\(\\) \\{.*?\\n    \\}\\n", "\n");
        for (String line : rest.split("\n")) {
            CHECK.holds("made by a call: " + line.trim(),
                !line.matches(".*\\bnew\\b.*") || line.matches(" {8}(private )?final [\\w\\[\\]]+ \\w+ = new .*;"));
        }
    }

    /** Of the library only what rule 4 lists, and of that what the program needs. */
    private static void library(String code) {
        Matcher m = Pattern.compile("\\b([A-Z]\\w*)\\.(\\w+)\\(").matcher(code);
        while (m.find()) {
            boolean own = code.contains("class " + m.group(1) + " {");
            String call = m.group(1) + "." + m.group(2);
            CHECK.holds("the program calls " + call, own || LIBRARY.contains(call));
        }
        CHECK.holds("the program imports nothing", !code.contains("import"));
    }

    private static void fields(Class<?> one) {
        int fields = 0;
        for (Field f : one.getDeclaredFields()) {
            fields += Modifier.isStatic(f.getModifiers()) ? 0 : 1;
        }
        CHECK.holds("at most twenty fields in " + one + ": " + fields, fields <= 20);
        for (Class<?> inner : one.getDeclaredClasses()) {
            fields(inner);
        }
    }

    private static void classes(String code) {
        Matcher m = Pattern.compile("\\b(class|interface|enum|record)\\s+\\w+").matcher(code);
        int classes = 0;
        while (m.find()) {
            classes++;
        }
        CHECK.holds("at most twelve classes: " + classes, classes <= 12);
    }

    private static void methods(String code) {
        String head = "\\n {4,8}(?:(?:public|private|static|final) )*\\w[\\w\\[\\]]* \\w+\\(([^)]*)\\) \\{";
        Matcher m = Pattern.compile(head).matcher(code);
        int methods = 0;
        while (m.find()) {
            methods++;
            CHECK.holds("at most seven parameters: " + m.group(), m.group(1).split(",").length <= 7);
            CHECK.holds("at most sixty lines: " + m.group(), linesFrom(code, m.end()) <= 60);
        }
        CHECK.holds("methods are seen: " + methods, methods > 100);
    }

    private static int linesFrom(String code, int from) {
        int open = 1;
        int lines = 1;
        for (int i = from; i < code.length() && open > 0; i++) {
            char c = code.charAt(i);
            open += c == '{' ? 1 : c == '}' ? -1 : 0;
            lines += c == '\n' ? 1 : 0;
        }
        return lines;
    }
}
