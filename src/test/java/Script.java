import java.lang.reflect.InvocationTargetException;
import java.lang.reflect.Method;
import java.util.ArrayList;
import java.util.HashMap;
import java.util.List;
import java.util.Map;
import java.util.Set;
import java.util.regex.Matcher;
import java.util.regex.Pattern;

/**
 * Runs of calls told as texts, each on a new object, one run for each sentence of the document.
 *
 * <p>A step is "name(numbers) = due", "tell TEXT = due" (the text is fed, then read), or, ahead of a call, "n* " for as
 * many calls, of which the last one's answer is due. Without " = due" the answer is free. What is due is a number, the
 * name of a refusal or a finding, or "fault PLACE".
 *
 * <p>Of each call that was refused, or found, or is one that only tells, it is seen that all stays but status(): the
 * calls so far are made on two objects, the call on one of them alone, and then all that can be seen of both is held
 * together.
 */
final class Script {
    private static final Map<String, Long> WORDS = Map.of("NONE", -1000000L, "BAD", -1000001L, "STATE", -1000002L,
        "FULL", -1000003L, "NULL", -1000011L, "PLACE", -1000012L, "KIND", -1000013L, "SIZE", -1000014L, "STORE",
        -1000015L);
    private static final Set<String> TELLING = Set.of("fault", "gran", "child", "ahead", "withWhom", "whole", "hungry",
        "without", "rota", "meets", "lost", "swaps", "soon", "who", "firsts", "steps", "even", "fever", "drawn", "kind",
        "as", "trace", "count", "status");
    private static final Set<String> WITH_FINDINGS = Set.of("row", "set", "copy", "drop", "who", "firsts", "steps",
        "as");
    private static final Pattern STEP =
        Pattern.compile("(?:(\\d+)\\* )?(?:tell (\\S*)|(\\w+)\\(([^)]*)\\))(?: = (.+))?");
    private static final Map<String, Method> FACE = new HashMap<>();

    /** All that was run so far, "sentence: step" each. */
    static final List<String> RUN = new ArrayList<>();

    static {
        for (Method m : LentGrannies.class.getDeclaredMethods()) {
            FACE.put(m.getName(), m);
        }
    }

    private final Check check;
    private final String[] opening;

    /** Each run begins with the steps of the opening. */
    Script(Check check, String... opening) {
        this.check = check;
        this.opening = opening;
    }

    private record Call(String name, Object[] numbers) {
    }

    private record Step(List<Call> calls, Long due, boolean isText) {
        Call last() {
            return calls.get(calls.size() - 1);
        }
    }

    /** An object of which no more is asked than is promised. */
    static final class Counted {
        private final LentGrannies x = new LentGrannies();
        private int calls;

        long ask(String name, Object... numbers) {
            if (++calls > 512) {
                throw new IllegalStateException("more than 512 calls");
            }
            try {
                return ((Number) FACE.get(name).invoke(x, numbers)).longValue();
            } catch (IllegalAccessException | InvocationTargetException e) {
                throw new IllegalStateException(name, e);
            }
        }
    }

    private interface Look {
        /** Sees a part of all that can be seen, at the price of changing the object. */
        void at(Counted x, List<Long> seen);
    }

    void run(String sentence, String... steps) {
        List<String> all = new ArrayList<>(List.of(opening));
        all.addAll(List.of(steps));
        Counted x = new Counted();
        List<Call> past = new ArrayList<>();
        for (String text : all) {
            RUN.add(sentence + ": " + text);
            Step step = parse(text);
            long status = new Twin(past).object.ask("status");
            long got = make(x, step.calls);
            if (step.due != null) {
                check.due(sentence + ": " + text, got, step.due);
            }
            if (isFault(step, got) || step.calls.size() == 1 && (isRefusal(got) || tells(step))) {
                stays(sentence + ": " + text, past, step, got, status);
            }
            past.addAll(step.calls);
        }
    }

    private static Step parse(String text) {
        Matcher m = STEP.matcher(text);
        if (!m.matches()) {
            throw new IllegalArgumentException(text);
        }
        List<Call> calls = new ArrayList<>();
        if (m.group(2) != null) {
            for (char c : m.group(2).toCharArray()) {
                calls.add(new Call("feed", new Object[] {(int) c}));
            }
            calls.add(new Call("town", new Object[0]));
        } else {
            for (int i = 0; i < (m.group(1) == null ? 1 : Integer.parseInt(m.group(1))); i++) {
                calls.add(new Call(m.group(3), numbers(m.group(4))));
            }
        }
        return new Step(calls, m.group(5) == null ? null : due(m.group(5)), m.group(2) != null);
    }

    private static Object[] numbers(String text) {
        if (text.isEmpty()) {
            return new Object[0];
        }
        String[] parts = text.split(", ");
        Object[] numbers = new Object[parts.length];
        for (int i = 0; i < parts.length; i++) {
            numbers[i] = parts[i].equals("MAX") ? Integer.MAX_VALUE
                : parts[i].equals("MIN") ? Integer.MIN_VALUE : Integer.parseInt(parts[i]);
        }
        return numbers;
    }

    private static long due(String text) {
        if (text.startsWith("fault ")) {
            return -1000100 - Integer.parseInt(text.substring(6));
        }
        return WORDS.containsKey(text) ? WORDS.get(text) : Long.parseLong(text);
    }

    private static long make(Counted x, List<Call> calls) {
        long got = 0;
        for (Call c : calls) {
            got = x.ask(c.name, c.numbers);
        }
        return got;
    }

    private static boolean isFault(Step step, long got) {
        return step.isText && got <= -1000100;
    }

    private static boolean isRefusal(long got) {
        return got < -1000000 && got >= -1000015;
    }

    private static boolean tells(Step step) {
        return TELLING.contains(step.last().name);
    }

    private static final class Twin {
        final Counted object = new Counted();

        Twin(List<Call> past) {
            make(object, past);
        }
    }

    private void stays(String where, List<Call> past, Step step, long got, long status) {
        List<Call> more = new ArrayList<>(past);
        more.addAll(step.calls);
        boolean counts = WITH_FINDINGS.contains(step.last().name) && !(got <= -1000001 && got >= -1000003);
        long finding = isRefusal(got) ? -1000010 - got : 0;
        check.due(where + ", then status()", new Twin(more).object.ask("status"), counts ? finding : status);
        if (!isFault(step, got)) {
            check.due(where + ", then fault()", new Twin(more).object.ask("fault"), new Twin(past).object.ask("fault"));
        }
        alike(where + " changed what stands", past, more);
    }

    /** Behind the acts, and as often undone, all is as it was. */
    void undone(String sentence, String... acts) {
        List<Call> past = new ArrayList<>();
        for (String text : opening) {
            past.addAll(parse(text).calls);
        }
        List<Call> more = new ArrayList<>(past);
        int before = (int) new Twin(past).object.ask("count", 6);
        for (String text : acts) {
            more.addAll(parse(text).calls);
        }
        int behind = (int) new Twin(more).object.ask("count", 6);
        check.holds(sentence + ": there is an act", behind > before);
        for (int left = behind - 1; left >= before; left--) {
            more.add(new Call("undo", new Object[0]));
            check.due(sentence + ": undo()", last(more), left);
        }
        alike(sentence + " is not undone", past, more);
    }

    private static long last(List<Call> calls) {
        Counted x = new Twin(calls.subList(0, calls.size() - 1)).object;
        return make(x, calls.subList(calls.size() - 1, calls.size()));
    }

    private void alike(String otherwise, List<Call> one, List<Call> other) {
        int acts = (int) new Twin(one).object.ask("count", 6);
        List<Look> looks = looks(acts);
        for (int i = 0; i < looks.size(); i++) {
            List<Long> seen = new ArrayList<>();
            List<Long> seenOther = new ArrayList<>();
            looks.get(i).at(new Twin(one).object, seen);
            looks.get(i).at(new Twin(other).object, seenOther);
            check.holds(otherwise + ", look " + i + ": " + seen + " became " + seenOther, seen.equals(seenOther));
        }
    }

    private static List<Look> looks(int acts) {
        List<Look> looks = new ArrayList<>();
        looks.add(Script::lookAtCountsAndTrace);
        looks.add(Script::lookAtTown);
        looks.add(Script::lookAtTape);
        for (int k = 0; k < 2; k++) {
            int image = k;
            looks.add((x, seen) -> {
                seen.add(x.ask("restore", image));
                lookAtTown(x, seen);
            });
        }
        for (int u = 1; u <= acts + 1; u++) {
            int undone = u;
            looks.add((x, seen) -> {
                for (int i = 0; i < undone; i++) {
                    seen.add(x.ask("undo"));
                }
                lookAtTown(x, seen);
            });
        }
        for (int r = 0; r < 8; r++) {
            int row = r;
            looks.add((x, seen) -> lookAtRow(x, row, seen));
        }
        return looks;
    }

    private static void lookAtCountsAndTrace(Counted x, List<Long> seen) {
        for (int what = 0; what < 8; what++) {
            seen.add(x.ask("count", what));
        }
        for (int i = 0; i <= 16; i++) {
            seen.add(x.ask("trace", i));
        }
    }

    private static void lookAtTown(Counted x, List<Long> seen) {
        for (int what = 1; what < 7; what++) {
            seen.add(x.ask("count", what));
        }
        for (int c = 0; c < 5; c++) {
            for (int what = 0; what < 4; what++) {
                seen.add(x.ask("child", c, what));
            }
            seen.add(x.ask("ahead", c, 1, 0));
            seen.add(x.ask("whole", c));
        }
        for (int g = 0; g < 6; g++) {
            seen.add(x.ask("kind", g));
            for (int what = 0; what < 7; what++) {
                seen.add(x.ask("gran", g, what));
            }
        }
    }

    private static void lookAtTape(Counted x, List<Long> seen) {
        seen.add(x.ask("town"));
        lookAtTown(x, seen);
    }

    /** Items can be told from one another by how fed children are: those from 0 to 4 are known, others are others. */
    private static void lookAtRow(Counted x, int row, List<Long> seen) {
        x.ask("town");
        make(x, parse("tell l0,1;c0,0;c1,0;c2,0;c3,0;c4,0;n1,0,0;").calls);
        for (int i = 0; i < 40; i++) {
            for (int c = 0; c < 5; c++) {
                seen.add(x.ask("who", c, 0, row, i, 1));
            }
        }
        seen.add(x.ask("set", row, 0, 70000));
        seen.add(x.ask("drop", row));
    }
}
