/** The boundary cases of promises 1 and 6 to 8, a run for each sentence of the document. */
public final class TapeEdgesTest {
    private static final Check C = new Check("TapeEdgesTest");
    private static final Script NEW = new Script(C);
    private static final String LAW = "l0,1;", KID = "c0,0;", OLD = "s1,0,0;";
    private static final String WHOLE = LAW + KID + OLD;
    private static final String FIVE = LAW + KID.repeat(5);
    private static final String SIX = LAW + KID + OLD.repeat(6);
    /** The longest text there is, but for two figures: 100 bytes. */
    private static final String HUNDRED = "l09,06;" + "c60,20;".repeat(5)
        + "s9,04,04;".repeat(2) + "o09,04,04;".repeat(4);

    public static void main(String[] args) {
        newObject();
        noTown();
        feed();
        lawNumbers();
        childNumbers();
        granNumbers();
        howMany();
        tokens();
        figures();
        ends();
        least();
        first();
        inPlace();
        stays();
        fault();
        lastCall();
        C.end();
    }

    private static void newObject() {
        NEW.run("Promise 1: nothing is there", "count(0) = 0", "count(1) = 0", "count(2) = 0", "count(3) = 0",
            "count(4) = 0", "count(5) = 0", "count(6) = 0", "count(7) = 0", "fault() = 0", "status() = 0",
            "trace(0) = NONE");
        NEW.run("Promise 1, terms 1: all ROWS are missing at first", "drop(0) = NULL", "drop(1) = NULL",
            "drop(2) = NULL", "drop(3) = NULL", "drop(4) = NULL", "drop(5) = NULL", "drop(6) = NULL", "drop(7) = NULL");
        NEW.run("Promise 1: no IMAGE is kept, no ACT can be undone", "restore(0) = STATE", "restore(1) = STATE",
            "undo() = STATE");
    }

    private static void noTown() {
        NEW.run("Promise 1: no TOWN, what is done", "days(1) = STATE", "sick(0, 0) = BAD", "swap(0, 0) = BAD",
            "pace(0, 0) = BAD", "quarrel(0, 1, 1) = BAD", "spoil(0, 1) = BAD", "gran(0, 0) = BAD", "child(0, 0) = BAD");
        NEW.run("Promise 1: no TOWN, what is foretold", "ahead(0, 0, 0) = BAD", "withWhom(0, 0) = BAD",
            "whole(0) = BAD", "hungry(0) = BAD", "without(1) = STATE", "rota(0, 1, -1) = STATE", "meets(0, 1) = BAD",
            "lost(1) = STATE", "swaps(1, 0) = STATE", "soon(0, 0) = BAD", "even(0) = STATE", "fever(0, 0, 0) = BAD",
            "fever(0, 0, 1) = BAD", "drawn(0, 1, 0) = STATE", "image(0) = STATE", "image(1) = STATE");
        NEW.run("Promise 1: no TOWN, what is asked", "kind(0) = BAD", "as(0, 0) = BAD", "ask(0, 0) = BAD",
            "ask(0, 1) = BAD");
        NEW.run("Promise 1: no TOWN, though a ROW is there", "row(0, 0, 1) = 1", "who(0, 0, 0, 0, 1) = BAD",
            "firsts(0, 0, 0, 0, 1) = BAD", "steps(0, 0, 0, 0, 1) = BAD", "who(0, 0, 1, 0, 1) = BAD");
        NEW.run("Promise 1: no TOWN yet, when a text has a FAULT", "tell " + LAW + KID + " = fault 10", "count(1) = 0",
            "child(0, 0) = BAD", "gran(0, 0) = BAD", "days(1) = STATE", "image(0) = STATE");
    }

    private static void feed() {
        NEW.run("Promise 6, feed: a byte, 0 to 255", "feed(0) = 1", "feed(-1) = BAD", "feed(255) = 2",
            "feed(256) = BAD", "feed(MIN) = BAD", "feed(MAX) = BAD", "count(7) = 2");
        NEW.run("Promise 6, feed: 100 bytes at most", "99* feed(120) = 99", "feed(120) = 100", "count(7) = 100",
            "feed(120) = FULL", "count(7) = 100", "status() = 0");
        NEW.run("Promise 6, feed: BAD comes ahead of FULL", "100* feed(120) = 100", "feed(-1) = BAD", "feed(256) = BAD",
            "feed(0) = FULL", "feed(255) = FULL");
        NEW.run("Promise 6, feed: empty once read, it has room again", "100* feed(120) = 100", "town() = fault 0",
            "count(7) = 0", "feed(120) = 1");
        NEW.run("Promise 6, feed: a full tape is read whole", "tell " + HUNDRED + " = 6", "count(1) = 5",
            "child(4, 0) = 60", "gran(5, 0) = 9", "gran(5, 1) = 4", "gran(5, 2) = 4");
    }

    private static void number(String what, String ahead, int least, int most, String behind) {
        int place = ahead.length();
        NEW.run("Promise 7, town: " + what + ", the least and the most", "tell " + ahead + least + behind + " = 1",
            "fault() = 0", "tell " + ahead + most + behind + " = 1", "fault() = 0");
        NEW.run("Promise 7, town: " + what + ", one above", "tell " + ahead + (most + 1) + behind + " = fault " + place,
            "fault() = 2", "tell " + ahead + "99" + behind + " = fault " + place, "fault() = 2");
        if (least > 0) {
            NEW.run("Promise 7, town: " + what + ", one below",
                "tell " + ahead + (least - 1) + behind + " = fault " + place, "fault() = 2");
        }
        NEW.run("Promise 7, town: " + what + ", below 0 there is no NUMBER",
            "tell " + ahead + "-1" + behind + " = fault " + place, "fault() = 1");
    }

    private static void lawNumbers() {
        number("EATS 0 to 9", "l", 0, 9, ",1;" + KID + OLD);
        number("PARTS 1 to 6", "l0,", 1, 6, ";" + KID + OLD);
        NEW.run("Promise 7, town: EATS and PARTS are as told", "tell l9,6;c60,0;t1,0,0; = 1", "ahead(0, 1, 0) = 51",
            "whole(0) = 6", "tell l0,1;c60,0;t1,0,0; = 1", "ahead(0, 1, 0) = 60", "whole(0) = 1");
    }

    private static void childNumbers() {
        number("FED 0 to 60", LAW + "c", 0, 60, ",0;" + OLD);
        number("SPOILT 0 to 20", LAW + "c0,", 0, 20, ";" + OLD);
        number("FED of the last CHILD", LAW + KID.repeat(4) + "c", 0, 60, ",0;" + OLD);
        number("SPOILT of the last CHILD", LAW + KID.repeat(4) + "c60,", 0, 20, ";" + OLD);
        NEW.run("Promise 7, town: FED and SPOILT are as told", "tell l0,1;c60,20;c0,0;c59,1;s1,0,0; = 1",
            "child(0, 0) = 60", "child(0, 1) = 20", "child(1, 0) = 0", "child(1, 1) = 0", "child(2, 0) = 59",
            "child(2, 1) = 1", "child(3, 0) = BAD");
    }

    private static void granNumbers() {
        number("ART 1 to 9", LAW + KID + "s", 1, 9, ",0,0;");
        number("STEP 0 to 4", LAW + KID + "s1,0,", 0, 4, ";");
        for (int kids = 1; kids <= 5; kids++) {
            number("FIRST, a CHILD told, of " + kids, LAW + KID.repeat(kids) + "w1,", 0, kids - 1, ",0;");
        }
        NEW.run("Promise 7, town: ART, FIRST, STEP are as told", "tell l0,1;c0,0;c0,0;s1,0,0;o9,1,4;t2,1,3; = 3",
            "gran(0, 0) = 1", "gran(0, 1) = 0", "gran(0, 2) = 0", "gran(1, 0) = 9", "gran(1, 1) = 1", "gran(1, 2) = 4",
            "gran(2, 0) = 2", "gran(2, 1) = 1", "gran(2, 2) = 3", "gran(3, 0) = BAD");
        NEW.run("Promise 7, town: each SORT", "tell l0,1;c0,0;s1,0,0;o1,0,0;t1,0,0;n1,0,0;w1,0,0; = 5", "kind(0) = 1",
            "kind(1) = 2", "kind(2) = 3", "kind(3) = 4", "kind(4) = 5");
        for (String letter : new String[] {"a", "l", "m", "p", "r", "u", "v", "x", "z"}) {
            NEW.run("Promise 7, town: " + letter + " is no SORT", "tell " + LAW + KID + letter + "1,0,0; = fault 10",
                "fault() = 1", "tell " + WHOLE + letter + "1,0,0; = fault 17", "fault() = 1");
        }
    }

    private static void howMany() {
        for (int n = 1; n <= 5; n++) {
            NEW.run("Promise 7, town: CHILDREN, " + n, "tell " + LAW + KID.repeat(n) + OLD + " = 1", "count(1) = " + n,
                "child(" + (n - 1) + ", 0) = 0", "child(" + n + ", 0) = BAD");
        }
        for (int n = 1; n <= 6; n++) {
            NEW.run("Promise 7, town: GRANDMOTHERS, " + n, "tell " + LAW + KID + OLD.repeat(n) + " = " + n,
                "count(2) = " + n, "kind(" + (n - 1) + ") = 1", "kind(" + n + ") = BAD");
        }
        NEW.run("Promise 7, town: no CHILD", "tell " + LAW + OLD + " = fault 5", "fault() = 1",
            "tell " + LAW + " = fault 5", "fault() = 1");
        NEW.run("Promise 7, town: no GRANDMOTHER", "tell " + LAW + KID + " = fault 10", "fault() = 1",
            "tell " + FIVE + " = fault 30", "fault() = 1");
        NEW.run("Promise 7, town: no law", "tell " + KID + OLD + " = fault 0", "fault() = 1");
        NEW.run("Promise 7, town: a second law", "tell " + LAW + WHOLE + " = fault 5", "fault() = 1",
            "tell " + LAW + KID + LAW + OLD + " = fault 10", "fault() = 1", "tell " + WHOLE + LAW + " = fault 17",
            "fault() = 1");
        NEW.run("Promise 7, town: a sixth CHILD, at its letter", "tell " + FIVE + KID + OLD + " = fault 30",
            "fault() = 3", "tell " + FIVE + "c = fault 30", "fault() = 3", "tell " + FIVE + "cc = fault 30",
            "fault() = 3", "tell " + FIVE + "c99,99; = fault 30", "fault() = 3");
        for (String letter : new String[] {"s", "o", "t", "n", "w"}) {
            NEW.run("Promise 7, town: a seventh GRANDMOTHER, " + letter + ", at her letter",
                "tell " + SIX + letter + "1,0,0; = fault 52", "fault() = 3", "tell " + SIX + letter + " = fault 52",
                "fault() = 3", "tell " + SIX + letter + "0,9,9; = fault 52", "fault() = 3");
        }
        NEW.run("Promise 7, town: a CHILD behind a GRANDMOTHER", "tell " + WHOLE + KID + " = fault 17", "fault() = 1",
            "tell " + WHOLE + KID + OLD + " = fault 17", "fault() = 1");
    }

    private static void other(int letter) {
        NEW.run("Promise 7, town: byte " + letter + " is no TOKEN", "feed(" + letter + ") = 1", "town() = fault 0",
            "fault() = 1", "feed(108) = 1", "feed(" + letter + ") = 2", "town() = fault 1", "fault() = 1");
        NEW.run("Promise 7, town: byte " + letter + " is no TOKEN behind a NUMBER", "feed(108) = 1", "feed(48) = 2",
            "feed(" + letter + ") = 3", "feed(44) = 4", "town() = fault 2", "fault() = 1");
        NEW.run("Promise 7, town: byte " + letter + " is no TOKEN ahead of a letter", "tell l0,1; = fault 5",
            "feed(108)", "feed(48)", "feed(44)", "feed(49)", "feed(59) = 5", "feed(" + letter + ") = 6", "feed(99) = 7",
            "town() = fault 5", "fault() = 1");
    }

    private static void tokens() {
        int[] none = {0, 9, 10, 32, 43, 45, 46, 47, 58, 60, 65, 76, 90, 96, 123, 127, 128, 172, 236, 255};
        for (int letter : none) {
            other(letter);
        }
        NEW.run("Promise 7, town: SIGNS in place of one another", "tell l0;1; = fault 2", "fault() = 1",
            "tell l0,1, = fault 4", "fault() = 1", "tell l,0,1; = fault 1", "fault() = 1", "tell l0,,1; = fault 3",
            "fault() = 1", "tell l0,1;; = fault 5", "fault() = 1", "tell ;" + WHOLE + " = fault 0", "fault() = 1",
            "tell " + WHOLE + "; = fault 17", "fault() = 1", "tell " + WHOLE + ", = fault 17", "fault() = 1",
            "tell " + LAW + KID + "s1,0; = fault 14", "fault() = 1", "tell " + LAW + KID + "s,1,0,0; = fault 11",
            "fault() = 1");
        NEW.run("Promise 7, town: letters in place of NUMBERS and SIGNS", "tell ll0,1; = fault 1", "fault() = 1",
            "tell l0l1; = fault 2", "fault() = 1", "tell " + LAW + "cc = fault 6", "fault() = 1",
            "tell " + LAW + KID + "ss = fault 11", "fault() = 1");
    }

    private static void figures() {
        NEW.run("Promise 7, town: a NUMBER has 2 figures at most", "tell l09,01;c60,20;s01,00,04; = 1",
            "child(0, 0) = 60", "child(0, 1) = 20", "gran(0, 2) = 4", "tell l009,1;c0,0;s1,0,0; = fault 1",
            "fault() = 1");
        NEW.run("Promise 7, town: a run of three figures, at its first", "tell l000,1; = fault 1", "fault() = 1",
            "tell l0,001; = fault 3", "fault() = 1", "tell " + LAW + "c000,0; = fault 6", "fault() = 1",
            "tell " + LAW + "c0,000; = fault 8", "fault() = 1", "tell " + LAW + KID + "s001,0,0; = fault 11",
            "fault() = 1", "tell " + LAW + KID + "s1,000,0; = fault 13", "fault() = 1",
            "tell " + LAW + KID + "s1,0,000; = fault 15", "fault() = 1");
        NEW.run("Promise 7, town: a run of four and more figures, at its first", "tell l0000,1; = fault 1",
            "fault() = 1", "tell l00000,1; = fault 1", "fault() = 1", "tell l0,000001; = fault 3", "fault() = 1");
        NEW.run("Promise 7, town: three figures are FAULT 1, two are FAULT 2", "tell l99,1; = fault 1", "fault() = 2",
            "tell l999,1; = fault 1", "fault() = 1", "tell l0,99; = fault 3", "fault() = 2", "tell l0,100; = fault 3",
            "fault() = 1");
        NEW.run("Promise 7, town: figures where no NUMBER can stand", "tell 0 = fault 0", "fault() = 1",
            "tell 00 = fault 0", "fault() = 1", "tell 000 = fault 0", "fault() = 1", "tell " + LAW + "5 = fault 5",
            "fault() = 1", "tell " + WHOLE + "5 = fault 17", "fault() = 1", "tell " + WHOLE + "555 = fault 17",
            "fault() = 1");
        NEW.run("Promise 7, town: figures up to the end of the text", "tell l0,1 = fault 4", "fault() = 1",
            "tell l0,01 = fault 5", "fault() = 1", "tell l0,001 = fault 3", "fault() = 1", "tell l0,7 = fault 3",
            "fault() = 2");
        NEW.run("Promise 7, town: 100 figures", "100* feed(48) = 100", "town() = fault 0", "fault() = 1");
    }

    private static void ends() {
        for (int length = 0; length < WHOLE.length(); length++) {
            NEW.run("Promise 7, town: the end, behind " + length + " bytes",
                "tell " + WHOLE.substring(0, length) + " = fault " + length, "fault() = 1", "count(7) = 0");
        }
        NEW.run("Promise 7, town: the end behind 100 bytes",
            "tell " + HUNDRED.replace("s9", "s09").substring(0, 100) + " = fault 100", "fault() = 1");
        NEW.run("Promise 7, town: the end, a second GRANDMOTHER begun", "tell " + WHOLE + "o = fault 18", "fault() = 1",
            "tell " + WHOLE + "o9,0,4 = fault 23", "fault() = 1", "tell " + WHOLE + "o9,0,4; = 2");
    }

    private static void least() {
        NEW.run("Promise 7, town: of one TOKEN the least, 1 ahead of 2", "tell 99 = fault 0", "fault() = 1",
            "tell l0,1;99 = fault 5", "fault() = 1", "tell " + WHOLE + "99 = fault 17", "fault() = 1");
        NEW.run("Promise 7, town: of one TOKEN the least, 1 ahead of 3, CHILDREN",
            "tell " + FIVE + OLD + "c = fault 37", "fault() = 1", "tell " + LAW + KID.repeat(4) + "cc = fault 26",
            "fault() = 1", "tell " + FIVE + OLD.repeat(6) + KID + " = fault 72", "fault() = 1");
        NEW.run("Promise 7, town: of one TOKEN the least, 1 ahead of 3, GRANDMOTHERS",
            "tell " + LAW + KID + OLD.repeat(5) + "ss = fault 46", "fault() = 1", "tell " + SIX + "x = fault 52",
            "fault() = 1", "tell " + SIX + "c = fault 52", "fault() = 1");
    }

    private static void first() {
        NEW.run("Promise 7, town: the first TOKEN that has a FAULT", "tell l10,7;c61,21;s0,9,9; = fault 1",
            "fault() = 2", "tell l9,7;c61,21;s0,9,9; = fault 3", "fault() = 2", "tell l9,6;c61,21;s0,9,9; = fault 6",
            "fault() = 2", "tell l9,6;c60,21;s0,9,9; = fault 9", "fault() = 2", "tell l9,6;c60,20;s0,9,9; = fault 13",
            "fault() = 2", "tell l9,6;c60,20;s1,9,9; = fault 15", "fault() = 2", "tell l9,6;c60,20;s1,0,9; = fault 17",
            "fault() = 2", "tell l9,6;c60,20;s1,0,4; = 1");
        NEW.run("Promise 7, town: a FAULT of a greater number comes first, if it is ahead",
            "tell l10,1;? = fault 1", "fault() = 2", "tell " + FIVE + "c? = fault 30", "fault() = 3",
            "tell " + SIX + "s? = fault 52", "fault() = 3", "tell " + LAW + "c61,0;" + KID.repeat(5) + " = fault 6",
            "fault() = 2");
    }

    private static void inPlace() {
        Script old = new Script(C, "tell l1,2;c5,5;c9,9;t1,0,1;o2,1,1;w3,0,2; = 3", "days(3) = 3", "sick(0, 9) = 0",
            "quarrel(1, 2, 1) = 4", "count(6) = 5");
        old.run("Promise 7, town: a TOWN that is read stands in place of the one before", "tell " + WHOLE + " = 1",
            "count(1) = 1", "count(2) = 1", "child(0, 0) = 0", "child(0, 1) = 0", "child(1, 0) = BAD",
            "gran(1, 0) = BAD", "kind(0) = 1", "count(4) = 0", "count(5) = 0");
        old.run("Promise 7, town: DAY 0 then", "count(3) = 3", "tell " + WHOLE + " = 1", "count(3) = 0",
            "gran(0, 4) = 0");
        old.run("Promise 7, town: nobody is sick then", "tell " + SIX + " = 6", "gran(0, 3) = 0", "gran(5, 3) = 0",
            "gran(0, 4) = 0");
        old.run("Promise 7, town: no QUARRELS then", "gran(1, 6) = 4", "tell " + SIX + " = 6", "gran(1, 6) = 0",
            "gran(2, 6) = 0", "lost(60) = 0");
        old.run("Promise 7, town: nobody was told anything then", "child(0, 2) = 2", "child(1, 2) = 1",
            "tell l0,2;c0,0;c0,0;t1,0,1; = 1", "child(0, 2) = 0", "child(1, 2) = 0", "ahead(0, 1, 2) = 2");
        old.run("Promise 7, town: no ACT can be undone then", "tell " + WHOLE + " = 1", "count(6) = 0",
            "undo() = STATE", "spoil(0, 3) = 3", "undo() = 0", "undo() = STATE", "count(2) = 1");
        old.run("Promise 7, town: the same text again begins anew", "tell l1,2;c5,5;c9,9;t1,0,1;o2,1,1;w3,0,2; = 3",
            "child(0, 0) = 5", "child(1, 0) = 9", "child(0, 1) = 5", "child(1, 1) = 9", "count(3) = 0");
        old.run("Promise 7, town: ROWS, IMAGES and THE TRACE are no part of a TOWN", "row(2, 1, 3) = 3", "image(1) = 1",
            "ask(0, 1) = -1000", "tell " + WHOLE + " = 1", "trace(0) = 22", "count(0) = 1", "set(2, 2, 4) = 4",
            "restore(1) = 1", "count(3) = 3", "gran(0, 3) = 9", "gran(1, 6) = 4");
    }

    private static void stays() {
        Script old = new Script(C, "tell l1,2;c5,5;c9,9;t1,0,1;o2,1,1;w3,0,2; = 3", "days(3) = 3", "sick(0, 9) = 0",
            "quarrel(1, 2, 1) = 4", "image(0) = 1", "spoil(1, 1)", "row(3, 2, 2) = 2", "set(3, 1, 4) = 4", "ask(1, 0)");
        old.run("Promise 7, town: by a FAULT all stays, 1", "tell " + WHOLE + "x = fault 17", "fault() = 1",
            "count(3) = 3");
        old.run("Promise 7, town: by a FAULT all stays, 2", "tell l9,6;c60,20;s1,0,5; = fault 17", "fault() = 2",
            "ahead(1, 1, 0)", "count(6) = 6");
        old.run("Promise 7, town: by a FAULT all stays, 3", "tell " + SIX + "s = fault 52", "fault() = 3",
            "count(2) = 3");
        old.run("Promise 7, town: by a FAULT at the end all stays", "tell " + FIVE + " = fault 30", "count(1) = 2");
        old.run("Promise 7, town: by an empty tape all stays", "tell  = fault 0", "count(2) = 3", "undo() = 5");
    }

    private static void fault() {
        NEW.run("Promise 8, fault: 0 before one", "fault() = 0", "tell " + WHOLE + " = 1", "fault() = 0", "feed(0) = 1",
            "fault() = 0");
        NEW.run("Promise 8, fault: the latest", "tell x = fault 0", "fault() = 1", "tell l10 = fault 1", "fault() = 2",
            "tell " + FIVE + "c = fault 30", "fault() = 3", "tell l10 = fault 1", "fault() = 2", "town() = fault 0",
            "fault() = 1");
        NEW.run("Promise 8, fault: the latest, though a text was read well since", "tell l10 = fault 1",
            "tell " + WHOLE + " = 1", "fault() = 2", "days(1) = 1", "undo() = 0", "image(0) = 1", "restore(0) = 1",
            "fault() = 2");
    }

    /** All of 512 calls are promised, so the last one, too. */
    private static void lastCall() {
        LentGrannies x = Check.townOf(WHOLE);
        for (int call = WHOLE.length() + 2; call < 512; call++) {
            int fed = call - WHOLE.length() - 1;
            C.due("feed, call " + call, x.feed(120), fed <= 100 ? fed : LentGrannies.FULL);
        }
        C.due("the 512th call", x.days(1), 1);
    }
}
