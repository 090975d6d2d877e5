/** Promises 18 to 33: what is foretold; nothing changes by it. */
public final class ForetoldTest {
    private static final Check C = new Check("ForetoldTest");
    private static final int NONE = -1000000, BAD = -1000001, NULL = -1000011, PLACE = -1000012;
    private static final int MIN = Integer.MIN_VALUE, MAX = Integer.MAX_VALUE;
    private static final String TOWN = "l3,2;c10,4;c0,20;c30,0;s5,0,1;o4,1,0;t3,2,2;n6,0,1;w2,1,1;";

    public static void main(String[] args) {
        ahead();
        withWhom();
        whole();
        hungry();
        without();
        rota();
        rotaByQuarrelsAndSickness();
        meets();
        lost();
        swaps();
        soon();
        kindsFirstsSteps();
        toldRefusals();
        even();
        fever();
        drawn();
        C.end();
    }

    private static void ahead() {
        LentGrannies x = Check.townOf(TOWN);
        int[][] fed = {{10, 0, 30}, {12, 6, 28}, {9, 17, 26}, {8, 22, 28}};
        int[][] spoilt = {{4, 20, 0}, {0, 18, 0}, {0, 13, 0}, {0, 14, 0}};
        int[][] told = {{0, 0, 0}, {0, 0, 2}, {0, 1, 2}, {2, 1, 2}};
        for (int n = 0; n < 4; n++) {
            for (int c = 0; c < 3; c++) {
                C.due("fed " + c + " behind " + n, x.ahead(c, n, 0), fed[n][c]);
                C.due("spoilt " + c + " behind " + n, x.ahead(c, n, 1), spoilt[n][c]);
                C.due("told " + c + " behind " + n, x.ahead(c, n, 2), told[n][c]);
            }
        }
        C.due("nothing changed", x.count(3) + x.count(6) + x.child(0, 0), 10);
        C.due("child 3", x.ahead(3, 0, 0), BAD);
        C.due("child -1", x.ahead(-1, 0, 0), BAD);
        C.due("61", x.ahead(0, 61, 0), BAD);
        C.due("-1", x.ahead(0, -1, 0), BAD);
        C.due("what 3", x.ahead(0, 0, 3), BAD);
        C.due("what -1", x.ahead(0, 0, -1), BAD);
        int last = x.ahead(1, 60, 0);
        x.days(24);
        x.days(24);
        x.days(12);
        C.due("behind 60", x.child(1, 0), last);
    }

    private static void withWhom() {
        LentGrannies x = Check.townOf(TOWN);
        C.due("now", x.withWhom(2, 0), 2);
        C.due("behind 1", x.withWhom(2, 1), 1);
        C.due("behind 60", x.withWhom(2, 60), (2 + 2 * 60) % 3);
        x.sick(2, 3);
        C.due("sick", x.withWhom(2, 0), NONE);
        C.due("sick yet", x.withWhom(2, 2), NONE);
        C.due("well", x.withWhom(2, 3), (2 + 2 * 3) % 3);
        x.sick(2, 60);
        C.due("sick to the last", x.withWhom(2, 59), NONE);
        C.due("well at last", x.withWhom(2, 60), 2);
        C.due("61", x.withWhom(2, 61), BAD);
        C.due("-1", x.withWhom(2, -1), BAD);
        C.due("gran 5", x.withWhom(5, 0), BAD);
        C.due("gran -1", x.withWhom(-1, 0), BAD);
    }

    private static void whole() {
        LentGrannies x = Check.townOf(TOWN);
        C.due("child 0", x.whole(0), 6);
        C.due("child 1", x.whole(1), 5);
        C.due("child 2", x.whole(2), 4);
        x.days(4);
        C.due("now", x.whole(2), 0);
        C.due("child 1 then", x.whole(1), 1);
        C.due("child 3", x.whole(3), BAD);
        C.due("child -1", x.whole(-1), BAD);
        LentGrannies y = Check.townOf("l0,1;c0,0;t1,0,0;");
        y.sick(0, 59);
        C.due("60 at most", y.whole(0), 60);
        y.sick(0, 60);
        C.due("not in 60", y.whole(0), NONE);
        C.due("no teller", Check.townOf("l0,1;c0,0;s1,0,0;").whole(0), NONE);
    }

    private static void hungry() {
        LentGrannies x = Check.townOf("l1,1;c60,0;c3,0;c0,0;n1,0,0;");
        C.due("60", x.hungry(0), 60);
        C.due("3", x.hungry(1), 3);
        C.due("now", x.hungry(2), 0);
        C.due("child 3", x.hungry(3), BAD);
        C.due("child -1", x.hungry(-1), BAD);
        LentGrannies y = Check.townOf("l1,1;c60,0;w1,0,0;");
        C.due("never", y.hungry(0), NONE);
        C.due("eaten at once", Check.townOf("l9,1;c1,0;o1,0,0;").hungry(0), 1);
    }

    private static void without() {
        LentGrannies x = Check.townOf(TOWN);
        C.due("none", x.without(1), 0);
        x.quarrel(0, 3, 1);
        C.due("lost ones do not count", x.without(1), 1);
        C.due("nor behind a day", x.without(2), 1);
        C.due("the teller comes", x.without(3), 0);
        x.sick(2, 3);
        C.due("she is sick: the shawl comes", x.without(3), 0);
        x.sick(4, 60);
        C.due("nobody comes", x.without(3), 5);
        C.due("she comes again", x.without(6), 0);
        C.due("0", x.without(0), BAD);
        C.due("61", x.without(61), BAD);
        C.due("60", x.without(60), 0);
    }

    private static void way(LentGrannies x, int children, int n, int many, int... firsts) {
        String call = "rota(" + children + ", " + n + ", ";
        C.due(call + "-1)", x.rota(children, n, -1), many);
        for (int k = 0; k < firsts.length; k++) {
            C.due(call + k + ")", x.rota(children, n, k), firsts[k]);
        }
    }

    private static void rota() {
        LentGrannies x = Check.townOf("l0,1;c0,0;c0,0;c0,0;s1,0,0;s1,0,0;");
        way(x, 0, 1, 0, 0, 0);
        way(x, 1, 14, 0, 0, 0);
        way(x, 2, 1, 1, 0, 1);
        way(x, 3, 1, 1, 0, 1);
        way(x, 4, 1, 1, 0, 2);
        way(x, 6, 1, 2, 1, 2);
        way(x, 7, 14, NONE, NONE, NONE);
        C.due("nothing changed", x.gran(0, 1) + x.gran(1, 1) + x.count(6), 0);
        x.pace(0, 1);
        way(x, 7, 3, 0, 0, 0);
        way(x, 7, 2, 1, 0, 2);
        x.swap(0, 1);
        way(x, 3, 2, 0, 1, 0);
        way(x, 7, 2, 0, 1, 0);
        C.due("0 days", x.rota(1, 0, -1), BAD);
        C.due("15 days", x.rota(1, 15, -1), BAD);
        C.due("children 8", x.rota(8, 1, -1), BAD);
        C.due("children -1", x.rota(-1, 1, -1), BAD);
        C.due("k 2", x.rota(1, 1, 2), BAD);
        C.due("k -2", x.rota(1, 1, -2), BAD);
    }

    private static void rotaByQuarrelsAndSickness() {
        LentGrannies x = Check.townOf("l0,1;c0,0;c0,0;c0,0;s1,0,0;s1,0,0;");
        x.quarrel(0, 1, 1);
        way(x, 1, 1, 1, 0, 1);
        way(x, 2, 1, 1, 0, 1);
        way(x, 6, 14, 2, 1, 2);
        x.sick(0, 14);
        way(x, 1, 14, 0, 0, 0);
        way(x, 2, 14, 1, 0, 1);
        way(x, 3, 14, NONE, NONE, NONE);
        x.sick(0, 13);
        way(x, 1, 14, 0, 0, 0);
        way(x, 3, 14, 1, 0, 1);
        x.sick(1, 14);
        way(x, 3, 14, NONE, NONE, NONE);
        way(x, 2, 14, 1, 1, 0);
        x.sick(0, 60);
        way(x, 1, 14, NONE, NONE, NONE);
        way(x, 0, 14, 0, 0, 0);
        LentGrannies y = Check.townOf("l0,1;c0,0;c0,0;c0,0;c0,0;c0,0;s1,0,0;s1,0,0;s1,0,0;s1,0,0;s1,0,0;s1,0,0;");
        way(y, 31, 14, 4, 0, 0, 1, 2, 3, 4);
        for (int a = 0; a < 6; a++) {
            for (int b = a + 1; b < 6; b++) {
                y.quarrel(a, b, 1);
            }
        }
        way(y, 31, 14, NONE, NONE);
        way(y, 15, 14, 5, 0, 1, 2, 3, 4, 4);
    }

    private static void meets() {
        LentGrannies x = Check.townOf(TOWN);
        C.due("now", x.meets(0, 3), 0);
        C.due("behind 1", x.meets(0, 1), 1);
        C.due("the other way", x.meets(1, 0), 1);
        C.due("never", x.meets(3, 4), NONE);
        x.sick(0, 2);
        C.due("when she is well", x.meets(0, 1), 4);
        x.sick(3, 60);
        C.due("behind 60", x.meets(0, 3), 60);
        x.sick(0, 60);
        C.due("both sick is not met", x.meets(0, 3), 60);
        x.quarrel(0, 3, 1);
        C.due("quarrels do not matter", x.meets(0, 3), 60);
        C.due("alike", x.meets(0, 0), BAD);
        C.due("gran 5", x.meets(0, 5), BAD);
        C.due("gran -1", x.meets(-1, 0), BAD);
        LentGrannies y = Check.townOf("l0,1;c0,0;c0,0;s1,0,1;s1,1,0;");
        y.sick(0, 60);
        C.due("a day too late", y.meets(0, 1), NONE);
    }

    private static void lost() {
        LentGrannies x = Check.townOf(TOWN);
        C.due("none", x.lost(60), 0);
        x.quarrel(0, 3, 1);
        C.due("two", x.lost(1), 2);
        C.due("of each day", x.lost(3), 6);
        C.due("60", x.lost(60), 120);
        x.sick(3, 2);
        C.due("sick ones do not quarrel", x.lost(3), 2);
        x.quarrel(0, 1, 1);
        C.due("on day 1 with the cook, on day 2 with the stern one", x.lost(3), 4);
        x.sick(3, 0);
        C.due("three of them on day 1", x.lost(2), 5);
        C.due("0", x.lost(0), BAD);
        C.due("61", x.lost(61), BAD);
    }

    private static void swaps() {
        LentGrannies x = Check.townOf("l0,1;c10,0;c10,0;s3,0,0;s9,0,0;s1,1,0;");
        C.due("none", x.swaps(1, 0), 0);
        C.due("no first", x.swaps(1, 1), NONE);
        x.quarrel(0, 1, 1);
        C.due("two", x.swaps(1, 0), 2);
        C.due("the first", x.swaps(1, 1), 2);
        x.swap(0, 1);
        x.swap(2, 0);
        C.due("none is better", x.swaps(60, 0), 0);
        C.due("nothing changed", x.gran(0, 1) * 10 + x.gran(2, 1), 10);
        C.due("0", x.swaps(0, 0), BAD);
        C.due("61", x.swaps(61, 0), BAD);
        C.due("what 2", x.swaps(1, 2), BAD);
        C.due("what -1", x.swaps(1, -1), BAD);
        LentGrannies y = Check.townOf("l0,1;c60,0;c0,0;s1,1,0;o9,1,0;o9,0,0;o9,0,0;");
        C.due("as much at 99: one more alone", y.swaps(3, 0), 2);
        C.due("the first one, 02", y.swaps(3, 1), 2);
        LentGrannies z = Check.townOf("l0,1;c10,0;c10,0;n1,0,0;s3,0,0;s9,0,0;n1,0,0;s1,1,0;");
        z.quarrel(1, 2, 1);
        C.due("10 times the lesser", z.swaps(1, 1), 14);
        C.due("14 and 24", z.swaps(1, 0), 2);
    }

    private static void soon() {
        LentGrannies x = Check.townOf(TOWN);
        C.due("the teller", x.soon(0, 0), 2);
        C.due("behind 4", x.soon(0, 1), 4);
        C.due("of several the first", x.soon(2, 0), 0);
        C.due("behind 4, too", x.soon(2, 1), 4);
        C.due("nothing changed", x.gran(2, 1), 2);
        C.due("what 2", x.soon(0, 2), BAD);
        C.due("what -1", x.soon(0, -1), BAD);
        C.due("child 3", x.soon(3, 0), BAD);
        C.due("child -1", x.soon(-1, 0), BAD);
        LentGrannies y = Check.townOf("l0,1;c0,0;c0,0;s1,0,0;t1,0,0;");
        y.sick(1, 59);
        C.due("at the last", y.soon(1, 0), 1);
        C.due("behind 60", y.soon(1, 1), 60);
        y.sick(1, 60);
        C.due("none", y.soon(1, 0), NONE);
        C.due("none, never", y.soon(1, 1), NONE);
        LentGrannies z = Check.townOf("l0,1;c0,0;c0,0;t1,0,0;s1,1,0;");
        z.quarrel(0, 1, 1);
        C.due("she would quarrel there", z.soon(0, 0), 0);
        C.due("today", z.soon(0, 1), 1);
        C.due("lost there", z.soon(1, 0), NONE);
    }

    private static void kindsFirstsSteps() {
        LentGrannies x = Check.townOf(TOWN);
        x.row(0, 0, 5);
        for (int d = 0; d < 3; d++) {
            x.set(0, d + 1, new int[] {12, 9, 8}[d]);
        }
        C.due("soup alone", x.who(0, 0, 0, 1, 3), 1 << 1);
        C.due("she never comes", x.who(0, 1, 0, 1, 3), 62);
        C.due("stern alone brings nothing", x.who(0, 3, 0, 1, 3), 1 << 4);
        C.due("her first", x.firsts(0, 0, 0, 1, 3), 1);
        C.due("anywhere else", x.firsts(0, 3, 0, 1, 3), 7);
        C.due("the cook not here", x.firsts(0, 1, 0, 1, 3), 6);
        C.due("her steps", x.steps(0, 0, 0, 1, 3), 1 << 1 | 1 << 2 | 1 << 4);
        C.due("the cook's steps", x.steps(0, 1, 0, 1, 1), 31);
        C.due("none fits", x.who(0, 0, 0, 0, 3), 0);
        C.due("none fits", x.firsts(0, 0, 0, 0, 3), 0);
        C.due("none fits", x.steps(0, 0, 0, 0, 3), 0);
        C.due("as they were", x.kind(0) * 100 + x.gran(0, 1) * 10 + x.gran(0, 2), 101);
        x.days(1);
        C.due("from now on", x.who(0, 0, 0, 2, 2), 62);
    }

    private static void toldRefusals() {
        LentGrannies x = Check.townOf(TOWN);
        x.row(0, 2, 12);
        int[][] bad = {{3, 0, 0, 0, 1}, {-1, 0, 0, 0, 1}, {0, 5, 0, 0, 1}, {0, -1, 0, 0, 1}, {0, 0, 8, 0, 1},
            {0, 0, -1, 0, 1}, {0, 0, 0, 0, 0}, {0, 0, 0, 0, 13}, {0, 0, 1, 0, 0}};
        for (int[] b : bad) {
            told(x, b, BAD);
        }
        told(x, new int[] {0, 0, 1, -1, 1}, NULL);
        int[][] place = {{0, 0, 0, -1, 1}, {0, 0, 0, 1, 12}, {0, 0, 0, 12, 1}, {0, 0, 0, MAX, 1}, {0, 0, 0, MIN, 1}};
        for (int[] p : place) {
            told(x, p, PLACE);
        }
        told(x, new int[] {0, 0, 0, 0, 12}, 0);
    }

    private static void told(LentGrannies x, int[] n, int due) {
        C.due("who " + java.util.Arrays.toString(n), x.who(n[0], n[1], n[2], n[3], n[4]), due);
        C.due("firsts " + java.util.Arrays.toString(n), x.firsts(n[0], n[1], n[2], n[3], n[4]), due);
        C.due("steps " + java.util.Arrays.toString(n), x.steps(n[0], n[1], n[2], n[3], n[4]), due);
    }

    private static void even() {
        LentGrannies x = Check.townOf(TOWN);
        C.due("now", x.even(0), 30);
        C.due("behind 1", x.even(1), 22);
        C.due("behind 2", x.even(2), 17);
        C.due("behind 3", x.even(3), 20);
        C.due("-1", x.even(-1), BAD);
        C.due("61", x.even(61), BAD);
        C.due("one child", Check.townOf("l0,1;c9,0;s1,0,0;").even(60), 0);
    }

    private static void chance(LentGrannies x, int child, int p, long above, long below) {
        C.due("fever(" + child + ", " + p + ", 0)", x.fever(child, p, 0), above);
        C.due("fever(" + child + ", " + p + ", 1)", x.fever(child, p, 1), below);
    }

    private static void fever() {
        LentGrannies x = Check.townOf(TOWN);
        chance(x, 0, 5, 3, 4);
        chance(x, 0, 3, 91, 100);
        chance(x, 0, 0, 1, 1);
        chance(x, 0, 10, 0, 1);
        chance(x, 2, 4, 3, 5);
        x.quarrel(0, 3, 1);
        chance(x, 0, 5, 1, 2);
        chance(x, 0, 3, 21, 50);
        chance(x, 0, 0, 0, 1);
        x.sick(0, 1);
        chance(x, 0, 3, 7, 10);
        x.sick(3, 1);
        chance(x, 0, 3, 0, 1);
        C.due("-1", x.fever(0, -1, 0), BAD);
        C.due("11", x.fever(0, 11, 0), BAD);
        C.due("what 2", x.fever(0, 0, 2), BAD);
        C.due("what -1", x.fever(0, 0, -1), BAD);
        C.due("child 3", x.fever(3, 0, 0), BAD);
        C.due("child -1", x.fever(-1, 0, 0), BAD);
        LentGrannies y = Check.townOf("l0,1;c0,0;s1,0,0;s1,0,0;s1,0,0;s1,0,0;s1,0,0;s1,0,0;");
        chance(y, 0, 7, 1000000 - 117649, 1000000);
    }

    private static void drawn() {
        LentGrannies x = Check.townOf(TOWN);
        C.due("none", x.drawn(0, 999999, 0), 40);
        C.due("none, spoilt", x.drawn(0, 1, 1), 24);
        C.due("seed 4: the stern one is sick, fed", x.drawn(1, 4, 0), 12 + 6 + 28);
        C.due("seed 4: the stern one is sick, spoilt", x.drawn(1, 4, 1), 4 + 18);
        C.due("seed 1: nobody is", x.drawn(1, 1, 1), 18);
        int fed = x.drawn(7, 1, 0);
        C.due("nothing changed", x.count(3) + x.count(6) + x.gran(3, 3), 0);
        // By seed 1 the sixth number is the first that 4 divides, 470211272: grandmother 2 for 2 days.
        x.days(5);
        x.sick(2, 2);
        x.days(1);
        int seventh = (int) (470211272L * 16807 % 2147483647);
        if (seventh % 4 == 0) {
            x.sick(seventh % 5, seventh % 5);
        }
        x.days(1);
        C.due("as if told", x.count(4), fed);
        LentGrannies y = Check.townOf("l0,1;c0,5;n1,0,0;");
        C.due("the only one is sick", y.drawn(1, 4, 1), 5);
        C.due("sick for 0 days by 67228 times 5", y.drawn(1, 20, 1), 4);
        C.due("-1", x.drawn(-1, 1, 0), BAD);
        C.due("61", x.drawn(61, 1, 0), BAD);
        C.due("seed 0", x.drawn(1, 0, 0), BAD);
        C.due("seed 1000000", x.drawn(1, 1000000, 0), BAD);
        C.due("what 2", x.drawn(1, 1, 2), BAD);
        C.due("what -1", x.drawn(1, 1, -1), BAD);
    }
}
