import java.io.OutputStream;
import java.io.PrintStream;
import java.util.List;
import java.util.regex.Matcher;
import java.util.regex.Pattern;

/** Each promise of the document has runs that name it, and among them one for each refusal that it tells. */
public final class PromisesTest {
    private static final Check CHECK = new Check("PromisesTest");
    private static final Pattern PROMISE = Pattern.compile(
        "(?m)^## Promise (\\d+): .+\\n\\n`(?:(?:int|long) )?(\\w+)\\([^)]*\\)`: (.+)$");
    private static final List<String> REFUSALS =
        List.of("NONE", "BAD", "STATE", "FULL", "NULL", "PLACE", "KIND", "SIZE", "STORE");

    public static void main(String[] args) throws Exception {
        runAllScripts();
        Matcher m = PROMISE.matcher(Papers.read(Papers.SHARED.resolve("DOC.md")));
        int promises = 0;
        while (m.find()) {
            promises++;
            CHECK.due("the number of promise " + m.group(1), Integer.parseInt(m.group(1)), promises);
            look("Promise " + promises + (promises == 1 ? "" : ", " + m.group(2)), m.group(2), m.group(3));
        }
        CHECK.due("promises in the document", promises, 41);
        CHECK.end();
    }

    /** Here it only counts what they run; they say by themselves what is not as due. */
    private static void runAllScripts() throws Exception {
        PrintStream out = System.out;
        System.setOut(new PrintStream(OutputStream.nullOutputStream()));
        String[] none = {};
        RowsEdgesTest.main(none);
        TapeEdgesTest.main(none);
        DoneEdgesTest.main(none);
        ForetoldEdgesTest.main(none);
        FittingEdgesTest.main(none);
        AskedEdgesTest.main(none);
        System.setOut(out);
    }

    private static void look(String promise, String call, String sentences) {
        long steps = Script.RUN.stream().filter(s -> s.startsWith(promise + ": ")).count();
        CHECK.holds(promise + " is named by runs, of ten steps at least: " + steps, steps >= 10);
        for (String refusal : REFUSALS) {
            // status() only tells of refusals; and a KIND that is no refusal has a word behind it.
            if (!call.equals("status") && Pattern.compile("\\b" + refusal + "[.,:;)]").matcher(sentences).find()) {
                Pattern due = Pattern.compile(promise + ": .*: " + call + "\\([^)]*\\) = " + refusal);
                CHECK.holds(promise + " tells " + refusal + ", and a run has it as due",
                    Script.RUN.stream().anyMatch(s -> due.matcher(s).matches()));
            }
        }
    }
}
