/** Promises 9 to 17: days, acts and how they are undone, grandmothers and children as they are. */
public final class DoneTest {
    private static final Check C = new Check("DoneTest");
    private static final int NONE = -1000000, BAD = -1000001, STATE = -1000002, FULL = -1000003;
    private static final int MIN = Integer.MIN_VALUE, MAX = Integer.MAX_VALUE;
    private static final String TOWN = "l3,2;c10,4;c0,20;c30,0;s5,0,1;o4,1,0;t3,2,2;n6,0,1;w2,1,1;";

    public static void main(String[] args) {
        threeDays();
        cuts();
        farDays();
        sick();
        swapAndPace();
        quarrel();
        spoil();
        undo();
        ring();
        today();
        C.end();
    }

    private static void children(LentGrannies x, String when, int what, int... due) {
        for (int c = 0; c < due.length; c++) {
            C.due(when + ", child(" + c + ", " + what + ")", x.child(c, what), due[c]);
        }
    }

    private static void threeDays() {
        LentGrannies x = Check.townOf(TOWN);
        C.due("a day", x.days(1), 1);
        children(x, "day 1", 0, 12, 6, 28);
        children(x, "day 1", 1, 0, 18, 0);
        children(x, "day 1", 2, 0, 0, 2);
        C.due("one more", x.days(1), 2);
        children(x, "day 2", 0, 9, 17, 26);
        children(x, "day 2", 1, 0, 13, 0);
        children(x, "day 2", 2, 0, 1, 2);
        C.due("one more", x.days(1), 3);
        children(x, "day 3", 0, 8, 22, 28);
        children(x, "day 3", 1, 0, 14, 0);
        children(x, "day 3", 2, 2, 1, 2);
        C.due("fed of all", x.count(4), 58);
        C.due("spoilt of all", x.count(5), 14);
        LentGrannies y = Check.townOf(TOWN);
        C.due("three at once", y.days(3), 3);
        children(y, "three", 0, 8, 22, 28);
        C.due("an act each", y.count(6), 3);
        C.due("0", y.days(0), BAD);
        C.due("25", y.days(25), BAD);
        C.due("least", y.days(MIN), BAD);
        C.due("most", y.days(MAX), BAD);
        C.due("nothing changed", y.count(3), 3);
    }

    private static void cuts() {
        LentGrannies x = Check.townOf("l9,1;c60,19;o9,0,0;o9,0,0;o9,0,0;n5,0,0;");
        x.days(1);
        C.due("cut at 99, then eaten", x.child(0, 0), 90);
        C.due("19 + 1, cut twice, less 5", x.child(0, 1), 15);
        LentGrannies y = Check.townOf("l9,1;c8,3;n5,0,0;o1,0,0;");
        y.days(1);
        C.due("8 + 2 - 9", y.child(0, 0), 1);
        C.due("cut at 0 at once, then 1 more", y.child(0, 1), 1);
        y.days(2);
        C.due("cut at 0", y.child(0, 0), 0);
        LentGrannies z = Check.townOf("l0,1;c0,9;t1,0,0;t9,0,0;w4,0,0;");
        z.days(1);
        C.due("halves are cut, a shawl brings 1", z.child(0, 0), 0 + 4 + 1);
        C.due("a shawl takes her art", z.child(0, 1), 5);
    }

    private static void farDays() {
        LentGrannies x = Check.townOf("l1,6;c10,0;c10,0;t2,0,1;");
        for (int i = 1; i <= 41; i++) {
            C.due("24 more", x.days(24), 24 * i);
        }
        C.due("would be 1000", x.days(16), FULL);
        C.due("BAD ahead of FULL", x.days(25), BAD);
        C.due("nothing changed", x.count(3), 984);
        C.due("999", x.days(15), 999);
        C.due("no more", x.days(1), FULL);
        C.due("foretold beyond it", x.withWhom(0, 60), (999 + 60) % 2);
        C.due("with whom on day 999", x.gran(0, 4), 1);
        C.due("undone", x.undo(), 23);
        C.due("can be lived again", x.days(1), 999);
    }

    private static void sick() {
        LentGrannies x = Check.townOf("l0,1;c0,0;c0,0;s1,0,0;s2,1,1;");
        C.due("was well", x.sick(0, 2), 0);
        C.due("is sick", x.gran(0, 3), 2);
        C.due("with nobody", x.gran(0, 4), NONE);
        x.days(1);
        C.due("a day less", x.gran(0, 3), 1);
        C.due("brought nothing", x.child(0, 0), 0);
        x.days(1);
        C.due("well", x.gran(0, 3), 0);
        C.due("with 0", x.gran(0, 4), 0);
        x.days(1);
        C.due("well yet", x.gran(0, 3), 0);
        C.due("60", x.sick(1, 60), 0);
        C.due("in place of it", x.sick(1, 0), 60);
        C.due("well again", x.gran(1, 4), (1 + 3) % 2);
        C.due("61", x.sick(1, 61), BAD);
        C.due("-1", x.sick(1, -1), BAD);
        C.due("gran 2", x.sick(2, 1), BAD);
        C.due("gran -1", x.sick(-1, 1), BAD);
        C.due("acts", x.count(6), 6);
    }

    private static void swapAndPace() {
        LentGrannies x = Check.townOf("l0,1;c0,0;c0,0;c0,0;s1,0,1;s2,1,4;");
        x.days(2);
        C.due("was 0", x.swap(0, 2), 0);
        C.due("first", x.gran(0, 1), 2);
        C.due("by day and step", x.gran(0, 4), (2 + 2) % 3);
        C.due("the same one", x.swap(0, 2), 2);
        C.due("child 3", x.swap(0, 3), BAD);
        C.due("child -1", x.swap(0, -1), BAD);
        C.due("gran 2", x.swap(2, 0), BAD);
        C.due("was 4", x.pace(1, 0), 4);
        C.due("step", x.gran(1, 2), 0);
        C.due("with her first", x.gran(1, 4), 1);
        C.due("4", x.pace(1, 4), 0);
        C.due("5", x.pace(1, 5), BAD);
        C.due("-1", x.pace(1, -1), BAD);
        C.due("gran -1", x.pace(-1, 1), BAD);
        C.due("acts", x.count(6), 6);
    }

    private static void quarrel() {
        LentGrannies x = Check.townOf(TOWN);
        C.due("on", x.quarrel(0, 3, 1), 8);
        C.due("it is so", x.quarrel(0, 3, 1), STATE);
        C.due("it is so, of the other", x.quarrel(3, 0, 1), STATE);
        C.due("one more", x.quarrel(0, 2, 1), 12);
        C.due("of the other", x.gran(3, 6), 1);
        C.due("lost", x.gran(0, 5), 1);
        C.due("the other, too", x.gran(3, 5), 1);
        C.due("elsewhere, not", x.gran(2, 5), 0);
        C.due("with it yet", x.child(0, 3), 9);
        x.days(1);
        children(x, "lost ones bring nothing", 0, 7, 6, 28);
        children(x, "lost ones bring nothing", 1, 4, 18, 0);
        C.due("off", x.quarrel(3, 0, 0), 0);
        C.due("it is not so", x.quarrel(3, 0, 0), STATE);
        C.due("the other quarrel stays", x.gran(0, 6), 4);
        C.due("alike", x.quarrel(1, 1, 1), BAD);
        C.due("on 2", x.quarrel(0, 1, 2), BAD);
        C.due("on -1", x.quarrel(0, 1, -1), BAD);
        C.due("gran 5", x.quarrel(0, 5, 1), BAD);
        C.due("gran -1", x.quarrel(-1, 1, 1), BAD);
        C.due("STATE is no act", x.count(6), 4);
        x.sick(0, 1);
        C.due("who is sick is not lost", x.gran(0, 5), 0);
        C.due("nor who would be with her", x.gran(2, 5), 0);
    }

    private static void spoil() {
        LentGrannies x = Check.townOf(TOWN);
        C.due("a gift", x.spoil(0, 5), 9);
        C.due("cut", x.spoil(0, 20), 20);
        C.due("0", x.spoil(0, 0), BAD);
        C.due("21", x.spoil(0, 21), BAD);
        C.due("child 3", x.spoil(3, 1), BAD);
        C.due("child -1", x.spoil(-1, 1), BAD);
        C.due("spoilt", x.child(0, 1), 20);
        C.due("undone", x.undo(), 1);
        C.due("spoilt before", x.child(0, 1), 9);
    }

    private static void undo() {
        LentGrannies x = Check.townOf(TOWN);
        x.days(2);
        x.sick(1, 4);
        x.swap(2, 0);
        x.pace(3, 4);
        x.quarrel(0, 4, 1);
        x.spoil(2, 7);
        C.due("gift", x.undo(), 6);
        C.due("spoilt", x.child(2, 1), 0);
        C.due("quarrel", x.undo(), 5);
        C.due("no foes", x.gran(0, 6) + x.gran(4, 6), 0);
        C.due("pace", x.undo(), 4);
        C.due("step", x.gran(3, 2), 1);
        C.due("swap", x.undo(), 3);
        C.due("first", x.gran(2, 1), 2);
        C.due("sick", x.undo(), 2);
        C.due("well", x.gran(1, 3), 0);
        C.due("day", x.undo(), 1);
        C.due("day 1", x.count(3), 1);
        children(x, "undone", 0, 12, 6, 28);
        children(x, "undone", 1, 0, 18, 0);
        children(x, "undone", 2, 0, 0, 2);
        C.due("day", x.undo(), 0);
        children(x, "all undone", 0, 10, 0, 30);
        children(x, "all undone", 1, 4, 20, 0);
        children(x, "all undone", 2, 0, 0, 0);
        C.due("none", x.undo(), STATE);
    }

    private static void ring() {
        LentGrannies x = Check.townOf(TOWN);
        x.days(24);
        C.due("24 kept", x.count(6), 24);
        x.days(3);
        C.due("24 kept yet", x.count(6), 24);
        for (int i = 23; i >= 0; i--) {
            C.due("undone", x.undo(), i);
        }
        C.due("three are forgotten", x.count(3), 3);
        children(x, "day 3", 0, 8, 22, 28);
        C.due("none", x.undo(), STATE);
        x.spoil(0, 1);
        C.due("kept anew", x.count(6), 1);
        C.due("undone anew", x.undo(), 0);
        C.due("as before", x.child(0, 1), 0);
    }

    private static void today() {
        LentGrannies x = Check.townOf(TOWN);
        for (int g = 0; g < 5; g++) {
            C.due("with whom " + g, x.gran(g, 4), new int[] {0, 1, 2, 0, 1}[g]);
        }
        children(x, "who is with it", 3, 9, 18, 4);
        x.sick(3, 1);
        children(x, "but for sick ones", 3, 1, 18, 4);
        x.days(1);
        children(x, "the day behind", 3, 0, 15, 16);
        C.due("what 7", x.gran(0, 7), BAD);
        C.due("what -1", x.gran(0, -1), BAD);
        C.due("gran 5", x.gran(5, 0), BAD);
        C.due("gran -1", x.gran(-1, 0), BAD);
        C.due("what 4", x.child(0, 4), BAD);
        C.due("what -1", x.child(0, -1), BAD);
        C.due("child 3", x.child(3, 0), BAD);
        C.due("child -1", x.child(-1, 0), BAD);
    }
}
