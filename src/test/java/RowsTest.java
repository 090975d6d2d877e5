/** Promises 2 to 5, and 41 where rows are found. */
public final class RowsTest {
    private static final Check C = new Check("RowsTest");
    private static final int BAD = -1000001, NULL = -1000011, PLACE = -1000012, SIZE = -1000014, STORE = -1000015;
    private static final int MIN = Integer.MIN_VALUE, MAX = Integer.MAX_VALUE;

    public static void main(String[] args) {
        row();
        set();
        copy();
        overlaps();
        drop();
        status();
        C.end();
    }

    private static void row() {
        LentGrannies x = new LentGrannies();
        C.due("row of none", x.row(0, 0, 0), 0);
        C.due("row of 40", x.row(7, 2, 40), 40);
        C.due("two rows", x.count(0), 2);
        C.due("in place of what is there", x.row(7, 1, 3), 3);
        C.due("still two rows", x.count(0), 2);
        C.due("41", x.row(1, 0, 41), BAD);
        C.due("row -1", x.row(-1, 0, 1), BAD);
        C.due("row 8", x.row(8, 0, 1), BAD);
        C.due("lane -1", x.row(0, -1, 1), BAD);
        C.due("lane 3", x.row(0, 3, 1), BAD);
        C.due("fewer than none", x.row(1, 0, -1), SIZE);
        C.due("far fewer than none", x.row(1, 0, MIN), SIZE);
        C.due("BAD ahead of SIZE", x.row(1, 3, -1), BAD);
        C.due("refused ones are not there", x.count(0), 2);
        x.row(2, 2, 2);
        x.set(2, 1, 5);
        x.row(2, 2, -1);
        C.due("found: nothing changed", x.copy(2, 1, 2, 0, 1), 1);
        x.row(2, 2, 2);
        x.row(3, 2, 2);
        x.set(3, 1, 9);
        x.copy(2, 1, 3, 1, 1);
        C.due("drop of 2", x.drop(2), 2);
    }

    private static void set() {
        LentGrannies x = new LentGrannies();
        C.due("missing", x.set(0, 0, 0), NULL);
        x.row(0, 0, 2);
        x.row(1, 1, 2);
        x.row(2, 2, 2);
        C.due("byte 127", x.set(0, 0, 127), 127);
        C.due("byte 128", x.set(0, 0, 128), -128);
        C.due("byte 256", x.set(0, 0, 256), 0);
        C.due("byte -129", x.set(0, 1, -129), 127);
        C.due("short 32767", x.set(1, 1, 32767), 32767);
        C.due("short 32768", x.set(1, 1, 32768), -32768);
        C.due("short 65536", x.set(1, 1, 65536), 0);
        C.due("int most", x.set(2, 1, MAX), MAX);
        C.due("int least", x.set(2, 1, MIN), MIN);
        C.due("place -1", x.set(0, -1, 0), PLACE);
        C.due("place 2", x.set(0, 2, 0), PLACE);
        C.due("place far", x.set(0, MAX, 0), PLACE);
        C.due("row 8", x.set(8, 0, 0), BAD);
        C.due("row -1", x.set(-1, 0, 0), BAD);
        x.row(0, 0, 0);
        C.due("a row of none has no place", x.set(0, 0, 0), PLACE);
    }

    private static void copy() {
        LentGrannies x = new LentGrannies();
        C.due("both missing", x.copy(0, 0, 1, 0, 0), NULL);
        x.row(0, 0, 4);
        C.due("one missing", x.copy(0, 0, 1, 0, 0), NULL);
        C.due("the other missing", x.copy(1, 0, 0, 0, 0), NULL);
        C.due("NULL ahead of PLACE", x.copy(1, -1, 0, 0, -1), NULL);
        x.row(1, 1, 4);
        C.due("two lanes", x.copy(0, 0, 1, 0, 1), STORE);
        C.due("STORE ahead of PLACE", x.copy(0, -1, 1, 0, 1), STORE);
        x.row(1, 0, 3);
        C.due("none", x.copy(0, 4, 1, 3, 0), 0);
        C.due("all of the lesser", x.copy(0, 1, 1, 0, 3), 3);
        C.due("i below 0", x.copy(0, -1, 1, 0, 1), PLACE);
        C.due("j below 0", x.copy(0, 0, 1, -1, 1), PLACE);
        C.due("n below 0", x.copy(0, 0, 1, 0, -1), PLACE);
        C.due("beyond the end of a", x.copy(0, 4, 1, 0, 1), PLACE);
        C.due("beyond the end of b", x.copy(0, 0, 1, 1, 3), PLACE);
        C.due("beyond an end, none", x.copy(0, 5, 1, 0, 0), PLACE);
        C.due("runs over", x.copy(0, MAX, 1, 0, MAX), PLACE);
        C.due("runs over, too", x.copy(0, 1, 1, 1, MAX), PLACE);
        C.due("row 8", x.copy(8, 0, 1, 0, 0), BAD);
        C.due("row -1", x.copy(0, 0, -1, 0, 0), BAD);
    }

    /** What rows hold can be read by who alone: FED of the child is 2, 4 .. 12 behind six days. */
    private static void overlaps() {
        for (int way = 0; way < 2; way++) {
            LentGrannies x = Check.townOf("l0,1;c0,0;s2,0,0;");
            x.row(0, 0, 8);
            for (int d = 0; d < 6; d++) {
                x.set(0, way == 0 ? d : d + 2, 2 * d + 2);
            }
            C.due("copy over itself", way == 0 ? x.copy(0, 0, 0, 2, 6) : x.copy(0, 2, 0, 0, 6), 6);
            C.due("as they were ahead", x.who(0, 0, 0, way == 0 ? 2 : 0, 6), 2);
            C.due("only there", x.who(0, 0, 0, way == 0 ? 0 : 2, 6), 0);
        }
    }

    private static void drop() {
        LentGrannies x = new LentGrannies();
        C.due("missing", x.drop(3), NULL);
        x.row(3, 1, 17);
        C.due("17", x.drop(3), 17);
        C.due("again", x.drop(3), NULL);
        C.due("none there", x.count(0), 0);
        C.due("row 8", x.drop(8), BAD);
        C.due("row -1", x.drop(-1), BAD);
        LentGrannies y = Check.townOf("l0,1;c0,0;s1,0,0;");
        y.row(0, 2, 1);
        y.set(0, 0, 1);
        C.due("1 fits", y.who(0, 0, 0, 0, 1), 1 << 1 | 1 << 5);
        y.row(0, 2, 1);
        C.due("anew it holds 0", y.who(0, 0, 0, 0, 1), 1 << 3 | 1 << 4);
    }

    private static void status() {
        LentGrannies x = Check.townOf("l0,1;c0,0;s1,0,0;");
        C.due("none yet", x.status(), 0);
        x.set(0, 0, 0);
        C.due("NULL", x.status(), 1);
        x.row(9, 0, 0);
        x.set(9, 0, 0);
        x.copy(9, 0, 0, 0, 0);
        x.drop(9);
        x.who(5, 0, 0, 0, 1);
        x.as(5, 0);
        x.days(25);
        x.undo();
        x.count(0);
        C.due("BAD ones and others leave it", x.status(), 1);
        x.row(0, 0, -1);
        C.due("SIZE", x.status(), 4);
        x.row(0, 0, 1);
        C.due("row had none", x.status(), 0);
        x.set(0, 1, 0);
        C.due("PLACE", x.status(), 2);
        x.set(0, 0, 0);
        C.due("set had none", x.status(), 0);
        x.row(1, 1, 1);
        x.copy(0, 0, 1, 0, 0);
        C.due("STORE", x.status(), 5);
        x.copy(0, 0, 0, 0, 0);
        C.due("copy had none", x.status(), 0);
        x.as(0, 4);
        C.due("KIND", x.status(), 3);
        x.as(0, 1);
        C.due("as had none", x.status(), 0);
        x.drop(2);
        C.due("drop of a missing one", x.status(), 1);
        x.drop(1);
        C.due("drop had none", x.status(), 0);
        x.steps(0, 0, 0, 0, 2);
        C.due("steps: PLACE", x.status(), 2);
        x.firsts(0, 0, 0, 0, 1);
        C.due("firsts had none", x.status(), 0);
        x.who(0, 0, 1, 0, 1);
        C.due("who: NULL", x.status(), 1);
        x.steps(0, 0, 0, 0, 1);
        C.due("steps had none", x.status(), 0);
    }
}
