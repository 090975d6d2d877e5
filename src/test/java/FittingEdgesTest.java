/** The boundary cases of promises 28 to 30: by which KINDS, FIRSTS, STEPS a row of FED is so. */
public final class FittingEdgesTest {
    private static final Check C = new Check("FittingEdgesTest");
    private static final Script NEW = new Script(C);
    private static final String[] CALLS = {"who", "firsts", "steps"};
    private static final int[] PROMISES = {28, 29, 30};

    public static void main(String[] args) {
        for (int i = 0; i < 3; i++) {
            numbers(CALLS[i], "Promise " + PROMISES[i] + ", " + CALLS[i] + ": ");
            findings(CALLS[i], "Promise " + PROMISES[i] + ", " + CALLS[i] + ": ");
            days(CALLS[i], "Promise " + PROMISES[i] + ", " + CALLS[i] + ": ");
        }
        who();
        firsts();
        steps();
        C.end();
    }

    /** Two children, three stern ones who change nothing: all fits a row of 0. */
    private static Script still() {
        return new Script(C, "tell l0,1;c0,0;c0,0;n1,0,0;n1,1,0;n1,0,0; = 3", "row(0, 0, 40) = 40",
            "row(7, 2, 12) = 12", "row(2, 1, 0) = 0");
    }

    private static int allOf(String call) {
        return call.equals("who") ? 1 << 3 | 1 << 4 : call.equals("firsts") ? 3 : 31;
    }

    private static void numbers(String call, String of) {
        String all = " = " + allOf(call);
        still().run(of + "BAD: CHILD, the first and the last", call + "(-1, 0, 0, 0, 1) = BAD",
            call + "(0, 0, 0, 0, 1)" + all, call + "(1, 1, 0, 0, 1)" + all, call + "(2, 0, 0, 0, 1) = BAD",
            call + "(MIN, 0, 0, 0, 1) = BAD", call + "(MAX, 0, 0, 0, 1) = BAD");
        still().run(of + "BAD: GRANDMOTHER, the first and the last", call + "(0, -1, 0, 0, 1) = BAD",
            call + "(0, 0, 0, 0, 1)" + all, call + "(0, 2, 0, 0, 1)" + all, call + "(0, 3, 0, 0, 1) = BAD",
            call + "(0, MIN, 0, 0, 1) = BAD", call + "(0, MAX, 0, 0, 1) = BAD");
        still().run(of + "BAD: ROW, the first and the last", call + "(0, 0, -1, 0, 1) = BAD",
            call + "(0, 0, 0, 0, 1)" + all, call + "(0, 0, 7, 0, 1)" + all, call + "(0, 0, 8, 0, 1) = BAD",
            call + "(0, 0, MIN, 0, 1) = BAD", call + "(0, 0, MAX, 0, 1) = BAD");
        still().run(of + "BAD: n, 1 and one below", call + "(0, 0, 0, 0, 0) = BAD", call + "(0, 0, 0, 0, -1) = BAD",
            call + "(0, 0, 0, 0, MIN) = BAD", call + "(0, 0, 0, 0, 1)" + all);
        still().run(of + "BAD: n, 12 and one above", call + "(0, 0, 0, 0, 12)" + all, call + "(0, 0, 0, 0, 13) = BAD",
            call + "(0, 0, 0, 0, MAX) = BAD");
        NEW.run(of + "BAD without a TOWN", "row(0, 0, 12) = 12", call + "(0, 0, 0, 0, 1) = BAD",
            call + "(0, 0, 1, 0, 1) = BAD");
    }

    private static void findings(String call, String of) {
        String all = " = " + allOf(call);
        still().run(of + "NULL", call + "(0, 0, 1, 0, 1) = NULL", "status() = 1", "drop(0) = 40",
            call + "(0, 0, 0, 0, 1) = NULL");
        still().run(of + "NULL ahead of PLACE", call + "(0, 0, 1, -1, 1) = NULL", call + "(0, 0, 1, 41, 1) = NULL");
        still().run(of + "BAD ahead of NULL", call + "(2, 0, 1, 0, 1) = BAD", call + "(0, 3, 1, 0, 1) = BAD",
            call + "(0, 0, 1, 0, 0) = BAD", call + "(0, 0, 1, 0, 13) = BAD", "status() = 0");
        still().run(of + "BAD ahead of PLACE", call + "(2, 0, 0, -1, 1) = BAD", call + "(0, 0, 0, -1, 0) = BAD",
            call + "(0, 0, 7, 0, 13) = BAD", "status() = 0");
        still().run(of + "PLACE, the first ITEM and one ahead of it", call + "(0, 0, 0, 0, 1)" + all,
            call + "(0, 0, 0, -1, 1) = PLACE", "status() = 2", call + "(0, 0, 0, -1, 2) = PLACE",
            call + "(0, 0, 0, MIN, 1) = PLACE", call + "(0, 0, 0, MIN, 12) = PLACE");
        still().run(of + "PLACE, the last ITEM and one behind it", call + "(0, 0, 0, 39, 1)" + all, "status() = 0",
            call + "(0, 0, 0, 40, 1) = PLACE", "status() = 2", call + "(0, 0, 0, 39, 2) = PLACE",
            call + "(0, 0, 0, 28, 12)" + all, call + "(0, 0, 0, 29, 12) = PLACE", call + "(0, 0, 0, MAX, 1) = PLACE",
            call + "(0, 0, 0, MAX, 12) = PLACE");
        still().run(of + "PLACE, n ITEMS in a ROW of as many, one less", call + "(0, 0, 7, 0, 12)" + all,
            call + "(0, 0, 7, 1, 12) = PLACE", call + "(0, 0, 7, 1, 11)" + all, "row(7, 2, 11) = 11",
            call + "(0, 0, 7, 0, 12) = PLACE");
        still().run(of + "PLACE in a ROW of none", call + "(0, 0, 2, 0, 1) = PLACE");
    }

    private static void days(String call, String of) {
        String all = " = " + allOf(call);
        still().run(of + "each of n DAYS, the first of them is another", "set(0, 0, 1) = 1",
            call + "(0, 0, 0, 0, 12) = 0", "status() = 0", call + "(0, 0, 0, 1, 12)" + all);
        still().run(of + "each of n DAYS, the last of them is another", "set(0, 11, 1) = 1",
            call + "(0, 0, 0, 0, 12) = 0", call + "(0, 0, 0, 0, 11)" + all, call + "(0, 0, 0, 12, 12)" + all);
        still().run(of + "ITEMS below 0 and above 99 are never FED", "set(0, 0, -1) = -1", call + "(0, 0, 0, 0, 1) = 0",
            "set(7, 0, 256) = 256", call + "(0, 0, 7, 0, 1) = 0", "set(7, 0, 65536) = 65536",
            call + "(0, 0, 7, 0, 1) = 0", "set(7, 0, MIN)", call + "(0, 0, 7, 0, 1) = 0", "set(7, 0, MAX)",
            call + "(0, 0, 7, 0, 1) = 0");
        new Script(C, "tell l0,1;c60,0;o9,0,0;o9,0,0;o9,0,0; = 3", "row(0, 0, 2) = 2").run(of + "FED of 99, one above",
            "set(0, 0, 99) = 99", "set(0, 1, 99) = 99", "sick(0, 9) = 0", call + "(0, 0, 0, 0, 1) = 0", "days(2) = 2",
            call + "(0, 0, 0, 0, 2) = " + (call.equals("who") ? 62 : call.equals("firsts") ? 1 : 31),
            "set(0, 0, 100) = 100", call + "(0, 0, 0, 0, 1) = 0");
    }

    private static String[] row(int from, int by, int n) {
        String[] steps = new String[n];
        for (int i = 0; i < n; i++) {
            steps[i] = "set(0, " + i + ", " + (from + by * i) + ")";
        }
        return steps;
    }

    private static Script soupOfTwo(int by) {
        String[] sets = row(by, by, 12);
        String[] opening = new String[14];
        opening[0] = "tell l0,1;c0,0;s2,0,0; = 1";
        opening[1] = "row(0, 0, 12) = 12";
        System.arraycopy(sets, 0, opening, 2, 12);
        return new Script(C, opening);
    }

    private static void who() {
        soupOfTwo(2).run("Promise 28, who: bit 1, one with soup", "who(0, 0, 0, 0, 1) = 2", "who(0, 0, 0, 0, 12) = 2");
        soupOfTwo(4).run("Promise 28, who: bit 2, a cook", "who(0, 0, 0, 0, 1) = 4", "who(0, 0, 0, 0, 12) = 4");
        soupOfTwo(1).run("Promise 28, who: bits 3 and 5, a teller, one in a shawl", "who(0, 0, 0, 0, 1) = 40",
            "who(0, 0, 0, 0, 12) = 40");
        soupOfTwo(0).run("Promise 28, who: bit 4, a stern one", "who(0, 0, 0, 0, 1) = 16", "who(0, 0, 0, 0, 12) = 16");
        soupOfTwo(3).run("Promise 28, who: none", "who(0, 0, 0, 0, 1) = 0", "who(0, 0, 0, 0, 12) = 0");
        soupOfTwo(0).run("Promise 28, who: all, if she is sick all the DAYS", "sick(0, 11) = 0",
            "who(0, 0, 0, 0, 11) = 62", "who(0, 0, 0, 0, 12) = 16", "sick(0, 12) = 11", "who(0, 0, 0, 0, 12) = 62");
        soupOfTwo(2).run("Promise 28, who: from now on", "days(1) = 1", "who(0, 0, 0, 0, 1) = 16",
            "who(0, 0, 0, 1, 11) = 2", "kind(0) = 1");
        new Script(C, "tell l0,1;c0,0;s2,0,0;n1,0,0; = 2", "row(0, 0, 1) = 1",
            "quarrel(0, 1, 1) = 2").run("Promise 28, who: all, if she is LOST", "who(0, 0, 0, 0, 1) = 62",
            "quarrel(0, 1, 0) = 0", "who(0, 0, 0, 0, 1) = 16");
    }

    private static Script five(String... more) {
        String[] opening = new String[more.length + 2];
        opening[0] = "tell l0,1;c0,0;c0,0;c0,0;c0,0;c0,0;s1,0,0;s1,4,0; = 2";
        opening[1] = "row(0, 0, 12) = 12";
        System.arraycopy(more, 0, opening, 2, more.length);
        return new Script(C, opening);
    }

    private static void firsts() {
        five(row(1, 1, 12)).run("Promise 29, firsts: it alone, the first and the last", "firsts(0, 0, 0, 0, 12) = 1",
            "firsts(3, 0, 0, 0, 12) = 8", "firsts(4, 1, 0, 0, 12) = 16", "firsts(3, 1, 0, 0, 12) = 8",
            "gran(0, 1) = 0");
        five().run("Promise 29, firsts: all but one", "firsts(0, 0, 0, 0, 12) = 30", "firsts(3, 0, 0, 0, 1) = 23",
            "firsts(4, 1, 0, 0, 1) = 15", "firsts(4, 0, 0, 0, 1) = 0");
        five(row(1, 1, 12)).run("Promise 29, firsts: all, where another one comes", "firsts(4, 0, 0, 0, 1) = 15",
            "set(0, 0, 2) = 2", "firsts(4, 0, 0, 0, 1) = 16", "firsts(0, 0, 0, 0, 1) = 0");
        five().run("Promise 29, firsts: all, if she is sick all the DAYS", "sick(0, 12) = 0",
            "firsts(0, 0, 0, 0, 12) = 31", "sick(0, 11) = 12", "firsts(0, 0, 0, 0, 12) = 30",
            "firsts(0, 0, 0, 0, 11) = 31");
        five().run("Promise 29, firsts: by the DAY it is", "pace(0, 1) = 0", "days(2) = 2", "sick(1, 60) = 0",
            "set(0, 0, 1) = 1", "firsts(2, 0, 0, 0, 1) = 1", "firsts(3, 0, 0, 0, 1) = 2", "firsts(1, 0, 0, 0, 1) = 15",
            "firsts(4, 0, 0, 0, 1) = 0", "firsts(3, 0, 0, 1, 1) = 29");
    }

    private static void steps() {
        five(row(1, 1, 12)).run("Promise 30, steps: 0, the least", "steps(0, 0, 0, 0, 12) = 1", "gran(0, 2) = 0");
        five(row(1, 0, 12)).run("Promise 30, steps: 1 to 4, as long as five DAYS", "steps(0, 0, 0, 0, 1) = 31",
            "steps(0, 0, 0, 0, 2) = 30", "steps(0, 0, 0, 0, 5) = 30", "steps(0, 0, 0, 0, 6) = 0");
        five("set(0, 1, 1)", "sick(1, 60)").run("Promise 30, steps: each by itself", "steps(1, 0, 0, 0, 2) = 2",
            "steps(2, 0, 0, 0, 2) = 4", "steps(3, 0, 0, 0, 2) = 8", "steps(4, 0, 0, 0, 2) = 16",
            "steps(0, 0, 0, 0, 2) = 0");
        five().run("Promise 30, steps: all, if she is sick all the DAYS", "sick(0, 12) = 0",
            "steps(0, 0, 0, 0, 12) = 31", "sick(0, 11) = 12", "steps(0, 0, 0, 0, 11) = 31",
            "steps(0, 0, 0, 0, 12) = 30");
        five("set(0, 0, 1)", "sick(1, 60)").run("Promise 30, steps: by the DAY it is", "steps(0, 0, 0, 0, 1) = 31",
            "sick(0, 3) = 0", "days(3) = 3", "steps(0, 0, 0, 0, 1) = 1", "steps(3, 0, 0, 0, 1) = 2",
            "steps(1, 0, 0, 0, 1) = 4", "steps(4, 0, 0, 0, 1) = 8", "steps(2, 0, 0, 0, 1) = 16");
    }
}
