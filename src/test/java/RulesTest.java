import java.nio.file.Files;
import java.nio.file.Path;
import java.util.regex.Matcher;
import java.util.regex.Pattern;

/** What of LANGUAGE.md can be seen in the text of the program; the path is given as -Dprogram. */
public final class RulesTest {
    private static final Check CHECK = new Check("RulesTest");
    private static final String[] BANNED = {
        "\\bthrow\\b", "\\bthrows\\b", "\\btry\\b", "\\bcatch\\b", "\\bsynchronized\\b", "\\bassert\\b", "->", "::",
        "\\bpackage\\b", "\\bprotected\\b", "\\bimport\\s+(?!java\\.util\\.)", "\\bThread\\b", "\\bSystem\\.(?!arraycopy)",
        "Exact\\b", "\\bhashCode\\b", "\\bequals\\b", "\\btoString\\b", "\\bstatic\\s*\\{", "\\bObject\\b", "\\bvar\\b",
        "\\bRandom\\b", "\\bStream\\b", "[^\\x00-\\x7f]", "while\\s*\\(true", "for\\s*\\(;;"};

    public static void main(String[] args) throws Exception {
        String path = System.getProperty("program", "src/main/java/LentGrannies.java");
        String text = Files.readString(Path.of(path));
        String code = text.replaceAll("(?s)/\\*.*?\\*/", " ").replaceAll("//[^\\n]*", " ").replaceAll("'.'", "'_'");
        for (String banned : BANNED) {
            Matcher m = Pattern.compile(banned).matcher(code);
            CHECK.holds("the program has " + banned, !m.find());
        }
        classes(code);
        methods(code);
        CHECK.end();
    }

    private static void classes(String code) {
        Matcher m = Pattern.compile("\\b(class|interface|enum|record)\\s+\\w+").matcher(code);
        int classes = 0;
        while (m.find()) {
            classes++;
        }
        CHECK.holds("at most twelve classes: " + classes, classes <= 12);
    }

    private static void methods(String code) {
        String head = "\\n {4,8}(?:(?:public|private|static|final) )*\\w[\\w\\[\\]]* \\w+\\(([^)]*)\\) \\{";
        Matcher m = Pattern.compile(head).matcher(code);
        int methods = 0;
        while (m.find()) {
            methods++;
            CHECK.holds("at most seven parameters: " + m.group(), m.group(1).split(",").length <= 7);
            CHECK.holds("at most sixty lines: " + m.group(), linesFrom(code, m.end()) <= 60);
        }
        CHECK.holds("methods are seen: " + methods, methods > 100);
    }

    private static int linesFrom(String code, int from) {
        int open = 1;
        int lines = 1;
        for (int i = from; i < code.length() && open > 0; i++) {
            char c = code.charAt(i);
            open += c == '{' ? 1 : c == '}' ? -1 : 0;
            lines += c == '\n' ? 1 : 0;
        }
        return lines;
    }
}
