/** Promises 34 to 40: images, kinds, asks, the trace, counts. */
public final class AskedTest {
    private static final Check C = new Check("AskedTest");
    private static final int NONE = -1000000, BAD = -1000001, STATE = -1000002, KIND = -1000013;
    private static final int MIN = Integer.MIN_VALUE, MAX = Integer.MAX_VALUE;
    private static final String TOWN = "l3,2;c10,4;c0,20;c30,0;s5,0,1;o4,1,0;t3,2,2;n6,0,1;w2,1,1;";

    public static void main(String[] args) {
        images();
        kinds();
        asks();
        asksOfOthers();
        counts();
        C.end();
    }

    private static void images() {
        LentGrannies x = new LentGrannies();
        C.due("no town", x.image(0), STATE);
        C.due("2", x.image(2), BAD);
        C.due("-1", x.image(-1), BAD);
        C.due("none kept", x.restore(0), STATE);
        Check.tell(x, TOWN);
        x.days(2);
        x.sick(1, 5);
        x.quarrel(0, 2, 1);
        C.due("kept", x.image(1), 1);
        C.due("acts can be undone yet", x.count(6), 4);
        C.due("the other was not", x.restore(0), STATE);
        C.due("2", x.restore(2), BAD);
        C.due("-1", x.restore(-1), BAD);
        x.days(3);
        x.swap(0, 2);
        x.pace(0, 4);
        x.spoil(0, 9);
        x.quarrel(0, 2, 0);
        C.due("restored", x.restore(1), 1);
        C.due("no act can be undone", x.undo(), STATE);
        same(x);
        Check.tell(x, "l0,1;c0,0;s1,0,0;");
        x.image(0);
        C.due("restored over another town", x.restore(1), 1);
        same(x);
        C.due("the other", x.restore(0), 1);
        C.due("its children", x.count(1), 1);
        x.days(1);
        x.image(0);
        x.days(1);
        x.restore(0);
        C.due("the later image", x.count(3), 1);
    }

    private static void same(LentGrannies x) {
        C.due("day", x.count(3), 2);
        C.due("fed", x.child(1, 0), 17);
        C.due("spoilt", x.child(1, 1), 13);
        C.due("told", x.child(1, 2), 1);
        C.due("spoilt of 0", x.child(0, 1), 0);
        C.due("sick", x.gran(1, 3), 5);
        C.due("foes", x.gran(0, 6), 4);
        C.due("first", x.gran(0, 1), 0);
        C.due("step", x.gran(0, 2), 1);
        C.due("grandmothers", x.count(2), 5);
        C.due("eats", x.ahead(2, 1, 0), 28);
    }

    private static void kinds() {
        LentGrannies x = Check.townOf(TOWN);
        int[] are = {1 << 0 | 1 << 1, 1 << 0 | 1 << 1 | 1 << 2, 1 << 0 | 1 << 1 | 1 << 3, 1 << 0 | 1 << 4,
            1 << 0 | 1 << 4 | 1 << 5};
        for (int g = 0; g < 5; g++) {
            C.due("kind " + g, x.kind(g), g + 1);
            for (int k = 0; k < 6; k++) {
                boolean is = (are[g] >> k & 1) == 1;
                C.due(g + " as " + k, x.as(g, k), is ? g : KIND);
                C.due(g + " as " + k + ", status", x.status(), is ? 0 : 3);
            }
        }
        C.due("5", x.kind(5), BAD);
        C.due("-1", x.kind(-1), BAD);
        C.due("as 6", x.as(0, 6), BAD);
        C.due("as -1", x.as(0, -1), BAD);
        C.due("5 as 0", x.as(5, 0), BAD);
        C.due("-1 as 0", x.as(-1, 0), BAD);
    }

    private static void ask(LentGrannies x, int one, int what, int due, int... trace) {
        String call = "ask(" + one + ", " + what + ")";
        C.due(call, x.ask(one, what), due);
        for (int i = 0; i < trace.length; i++) {
            C.due(call + ", trace " + i, x.trace(i), trace[i]);
        }
        C.due(call + ", behind the trace", x.trace(trace.length), NONE);
    }

    private static void asks() {
        LentGrannies x = Check.townOf(TOWN);
        ask(x, 0, 0, 5, 11, 10, 21, 20);
        ask(x, 0, 1, 0, 21, 20);
        ask(x, 1, 0, -8, 12, 11, 10, 24, 21, 20);
        ask(x, 1, 1, 4, 24, 21, 20);
        ask(x, 2, 0, -993, 11, 10, 22, 21, 20);
        ask(x, 2, 1, -996, 22, 21, 20);
        ask(x, 3, 0, -94, 13, 10);
        ask(x, 3, 1, 97, 23, 20, 13, 10);
        ask(x, 4, 0, -196, 14, 13, 10);
        ask(x, 4, 1, 200, 23, 20, 14, 13, 10);
        C.due("what 2", x.ask(0, 2), BAD);
        C.due("what -1", x.ask(0, -1), BAD);
        C.due("gran 5", x.ask(5, 0), BAD);
        C.due("gran -1", x.ask(-1, 0), BAD);
        C.due("a refused ask leaves the trace", x.trace(4), 10);
        C.due("trace -1", x.trace(-1), NONE);
        C.due("trace 16", x.trace(16), NONE);
        C.due("trace far", x.trace(MAX), NONE);
        C.due("trace least", x.trace(MIN), NONE);
    }

    private static void asksOfOthers() {
        LentGrannies x = Check.townOf("l0,1;c0,0;c0,0;c0,0;n1,0,0;s9,2,0;t9,2,0;o9,2,0;w9,2,0;n9,2,0;");
        ask(x, 1, 0, 9 + 1 + 2, 11, 10, 21, 20);
        ask(x, 2, 0, 9 + 2 + 2 - 1000, 11, 10, 22, 21, 20);
        ask(x, 3, 0, -(9 + 2 * (3 + 2)), 12, 11, 10, 24, 21, 20);
        ask(x, 4, 1, 4 - 2 * (9 - 100), 23, 20, 14, 13, 10);
        ask(x, 5, 1, 5 - (9 - 100), 23, 20, 13, 10);
        x.swap(1, 0);
        ask(x, 1, 1, 1, 21, 20);
    }

    private static void counts() {
        LentGrannies x = Check.townOf(TOWN);
        x.row(5, 0, 0);
        x.feed(9);
        x.days(2);
        int[] due = {1, 3, 5, 2, 9 + 17 + 26, 13, 2, 1};
        for (int what = 0; what < 8; what++) {
            C.due("count " + what, x.count(what), due[what]);
        }
        x.town();
        Check.tell(x, "l0,1;c1,1;s1,0,0;");
        C.due("fed of the children there are", x.count(4), 1);
        C.due("spoilt of the children there are", x.count(5), 1);
        C.due("8", x.count(8), BAD);
        C.due("-1", x.count(-1), BAD);
    }
}
