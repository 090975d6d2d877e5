/** Promises 1 and 6 to 8: a new object, the tape, the town that is read, its faults. */
public final class TapeTest {
    private static final Check C = new Check("TapeTest");
    private static final int BAD = -1000001, STATE = -1000002, FULL = -1000003;
    private static final String LAW = "l0,1;";
    private static final String KID = "c0,0;";
    private static final String OLD = "s1,0,0;";

    public static void main(String[] args) {
        fresh();
        feed();
        reads();
        faults();
        stays();
        C.end();
    }

    private static void fresh() {
        LentGrannies x = new LentGrannies();
        for (int what = 0; what < 8; what++) {
            C.due("count " + what, x.count(what), 0);
        }
        C.due("fault", x.fault(), 0);
        C.due("status", x.status(), 0);
        C.due("undo", x.undo(), STATE);
        C.due("trace", x.trace(0), LentGrannies.NONE);
        C.due("days", x.days(0), STATE);
        C.due("without", x.without(0), STATE);
        C.due("rota", x.rota(-1, 0, -2), STATE);
        C.due("lost", x.lost(0), STATE);
        C.due("swaps", x.swaps(0, 9), STATE);
        C.due("even", x.even(-1), STATE);
        C.due("drawn", x.drawn(-1, 0, 9), STATE);
        C.due("gran", x.gran(0, 0), BAD);
        C.due("child", x.child(0, 0), BAD);
        C.due("image", x.image(1), STATE);
        C.due("restore", x.restore(1), STATE);
    }

    private static void feed() {
        LentGrannies x = new LentGrannies();
        C.due("-1", x.feed(-1), BAD);
        C.due("256", x.feed(256), BAD);
        for (int i = 0; i < 100; i++) {
            C.due("byte " + i, x.feed(i == 0 ? 0 : 255), i + 1);
        }
        C.due("no room", x.feed(0), FULL);
        C.due("BAD ahead of FULL", x.feed(256), BAD);
        C.due("100 on it", x.count(7), 100);
        C.due("read", x.town(), -1000100);
        C.due("empty then", x.count(7), 0);
        C.due("anew", x.feed(7), 1);
    }

    private static void reads() {
        LentGrannies x = new LentGrannies();
        C.due("all edges", Check.tell(x, "l9,6;c60,20;c00,00;s9,1,4;o1,0,0;t09,01,02;n5,1,3;w5,0,0;s1,1,1;"), 6);
        C.due("no fault", x.fault(), 0);
        C.due("children", x.count(1), 2);
        C.due("grandmothers", x.count(2), 6);
        C.due("fed", x.child(0, 0), 60);
        C.due("spoilt", x.child(0, 1), 20);
        C.due("told", x.child(0, 2), 0);
        for (int g = 0; g < 6; g++) {
            C.due("kind " + g, x.kind(g), new int[] {1, 2, 3, 4, 5, 1}[g]);
            C.due("art " + g, x.gran(g, 0), new int[] {9, 1, 9, 5, 5, 1}[g]);
            C.due("first " + g, x.gran(g, 1), new int[] {1, 0, 1, 1, 0, 1}[g]);
            C.due("step " + g, x.gran(g, 2), new int[] {4, 0, 2, 3, 0, 1}[g]);
        }
        C.due("five children", Check.tell(x, LAW + KID + KID + KID + KID + "c1,2;" + "s1,4,0;"), 1);
        C.due("the last child", x.child(4, 0), 1);
        C.due("the last child's spoilt", x.child(4, 1), 2);
    }

    private static void fault(String text, int place, int number) {
        LentGrannies x = new LentGrannies();
        C.due("place of '" + text + "'", Check.tell(x, text), -1000100 - place);
        C.due("number of '" + text + "'", x.fault(), number);
        C.due("no town by '" + text + "'", x.count(2), 0);
        C.due("tape behind '" + text + "'", x.count(7), 0);
    }

    private static void faults() {
        String three = KID + KID + KID;
        fault("", 0, 1);
        fault("x", 0, 1);
        fault("L0,1;", 0, 1);
        fault("l", 1, 1);
        fault("l,", 1, 1);
        fault("l0;1,", 2, 1);
        fault("l 0,1;", 1, 1);
        fault("l123,1;", 1, 1);
        fault("l1234,1;", 1, 1);
        fault("l10,1;", 1, 2);
        fault("l99", 1, 2);
        fault("l0,0;", 3, 2);
        fault("l0,7;", 3, 2);
        fault("l0,100;", 3, 1);
        fault("l0,1", 4, 1);
        fault("l0,112", 3, 1);
        fault(LAW, 5, 1);
        fault(LAW + OLD, 5, 1);
        fault(LAW + "d", 5, 1);
        fault(LAW + "c61,0;", 6, 2);
        fault(LAW + "c60,21;", 9, 2);
        fault(LAW + "c60,20", 11, 1);
        fault(LAW + KID, 10, 1);
        fault(LAW + KID + "x", 10, 1);
        fault(LAW + KID + LAW, 10, 1);
        fault(LAW + KID + "s0,0,0;", 11, 2);
        fault(LAW + KID + "s10,0,0;", 11, 2);
        fault(LAW + KID + "s1,1,0;", 13, 2);
        fault(LAW + KID + "s1,0,5;", 15, 2);
        fault(LAW + KID + "s1,0,0", 16, 1);
        fault(LAW + KID + "s1,0;", 14, 1);
        fault(LAW + KID + OLD + KID, 17, 1);
        fault(LAW + KID + OLD + " ", 17, 1);
        fault(LAW + KID + OLD + "5", 17, 1);
        fault(LAW + KID + OLD + "s", 18, 1);
        fault(LAW + three + "s1,3,0;", 23, 2);
        fault(LAW + three + KID + KID + KID, 30, 3);
        fault(LAW + three + KID + KID + "c99,99;", 30, 3);
        fault(LAW + three + KID + KID, 30, 1);
        fault(LAW + KID + OLD + OLD + OLD + OLD + OLD + OLD + "o1", 52, 3);
        fault(LAW + KID + OLD + OLD + OLD + OLD + OLD + OLD + "c", 52, 1);
        fault(LAW + KID + OLD + OLD + OLD + OLD + OLD + OLD + "123", 52, 1);
        fault(LAW + "c" + (char) 200, 6, 1);
    }

    private static void stays() {
        LentGrannies x = Check.townOf("l1,2;c5,5;s1,0,0;");
        x.days(2);
        x.sick(0, 3);
        C.due("a fault", Check.tell(x, "l1,2;c5,5;s1,0,0;x"), -1000117);
        C.due("the day stays", x.count(3), 2);
        C.due("acts stay", x.count(6), 3);
        C.due("sickness stays", x.gran(0, 3), 3);
        x.quarrel(0, 0, 1);
        C.due("another", Check.tell(x, "l0,1;c0,0;c0,0;s1,1,0;t1,0,0;"), 2);
        C.due("the latest fault is told yet", x.fault(), 1);
        C.due("day 0", x.count(3), 0);
        C.due("no acts", x.count(6), 0);
        C.due("nothing to undo", x.undo(), STATE);
        C.due("nobody is sick", x.gran(0, 3), 0);
        C.due("quarrel", x.quarrel(0, 1, 1), 2);
        C.due("again", Check.tell(x, "l0,1;c0,0;c0,0;s1,1,0;t1,0,0;"), 2);
        C.due("no quarrels", x.gran(0, 6), 0);
        Check.tell(x, "l10");
        C.due("the latest fault", x.fault(), 2);
    }
}
