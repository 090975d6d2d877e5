/** The boundary cases of promises 34 to 41, a run for each sentence of the document. */
public final class AskedEdgesTest {
    private static final Check C = new Check("AskedEdgesTest");
    private static final Script NEW = new Script(C);
    private static final Script TOWN = new Script(C,
        "tell l3,2;c10,4;c0,20;c30,0;s5,0,1;o4,1,0;t3,2,2;n6,0,1;w2,1,1; = 5");
    private static final Script SIX = new Script(C,
        "tell l0,1;c0,0;c0,0;c0,0;c0,0;c0,0;s1,4,0;o9,4,0;t9,4,0;n1,4,0;w9,4,0;o1,4,0; = 6");

    public static void main(String[] args) {
        image();
        restoreNumbers();
        restoreTown();
        kind();
        asNumbers();
        asKinds();
        askNumbers();
        askBodies();
        trace();
        countNumbers();
        counts();
        status();
        C.end();
    }

    private static void image() {
        NEW.run("Promise 34, image: STATE: no TOWN", "image(0) = STATE", "image(1) = STATE", "restore(0) = STATE",
            "restore(1) = STATE");
        NEW.run("Promise 34, image: BAD comes ahead of STATE", "image(-1) = BAD", "image(2) = BAD", "image(MIN) = BAD",
            "image(MAX) = BAD");
        TOWN.run("Promise 34, image: 0, one below", "image(-1) = BAD", "image(MIN) = BAD", "restore(0) = STATE",
            "image(0) = 1", "restore(1) = STATE", "restore(0) = 1");
        TOWN.run("Promise 34, image: 1, one above", "image(2) = BAD", "image(MAX) = BAD", "restore(1) = STATE",
            "image(1) = 1", "restore(0) = STATE", "restore(1) = 1");
        TOWN.run("Promise 34, image: it is no ACT and leaves ACTS", "days(3) = 3", "image(0) = 1", "count(6) = 3",
            "undo() = 2", "count(3) = 2");
        TOWN.run("Promise 34, image: in place of the one that was kept", "image(0) = 1", "days(1) = 1", "image(0) = 1",
            "days(1) = 2", "restore(0) = 1", "count(3) = 1", "child(0, 0) = 12");
        TOWN.run("Promise 34, image: one kept leaves the other", "days(1) = 1", "image(0) = 1", "days(1) = 2",
            "image(1) = 1", "days(1) = 3", "restore(0) = 1", "count(3) = 1", "restore(1) = 1", "count(3) = 2",
            "image(0) = 1", "restore(1) = 1", "count(3) = 2");
        TOWN.run("Promise 34, image: each by itself", "image(0) = 1", "days(1) = 1", "image(1) = 1", "days(1) = 2",
            "restore(0) = 1", "count(3) = 0", "restore(1) = 1", "count(3) = 1", "restore(0) = 1", "count(3) = 0");
    }

    private static void restoreNumbers() {
        NEW.run("Promise 35, restore: STATE: none was kept, no TOWN", "restore(0) = STATE", "restore(1) = STATE");
        NEW.run("Promise 35, restore: BAD comes ahead of STATE", "restore(-1) = BAD", "restore(2) = BAD",
            "restore(MIN) = BAD", "restore(MAX) = BAD");
        TOWN.run("Promise 35, restore: 0 and 1, one below, one above", "image(0) = 1", "image(1) = 1",
            "restore(-1) = BAD", "restore(0) = 1", "restore(1) = 1", "restore(2) = BAD", "restore(MIN) = BAD",
            "restore(MAX) = BAD");
        TOWN.run("Promise 35, restore: STATE: none was kept, changes nothing", "days(2) = 2", "restore(0) = STATE",
            "restore(1) = STATE", "count(6) = 2", "image(1) = 1", "restore(0) = STATE", "count(6) = 2");
    }

    private static void restoreTown() {
        TOWN.run("Promise 35, restore: no ACT can be undone then", "days(3) = 3", "image(0) = 1", "spoil(0, 1)",
            "count(6) = 4", "restore(0) = 1", "count(6) = 0", "undo() = STATE", "days(1) = 4", "undo() = 0",
            "count(3) = 3", "undo() = STATE");
        TOWN.run("Promise 35, restore: behind 24 ACTS, none can be undone", "image(0) = 1", "days(24) = 24",
            "days(1) = 25", "restore(0) = 1", "count(6) = 0", "undo() = STATE", "days(24) = 24", "count(6) = 24",
            "24* undo() = 0", "count(3) = 0");
        TOWN.run("Promise 35, restore: the TOWN is as it was", "days(2) = 2", "sick(1, 5) = 0", "quarrel(0, 2, 1) = 4",
            "swap(3, 2) = 0", "pace(4, 4) = 1", "spoil(2, 3) = 3", "image(1) = 1", "days(9) = 11",
            "quarrel(0, 2, 0) = 0", "swap(3, 1) = 2", "pace(4, 0) = 4", "sick(2, 60) = 0", "restore(1) = 1",
            "count(3) = 2", "gran(1, 3) = 5", "gran(2, 3) = 0", "gran(0, 6) = 4", "gran(2, 6) = 1", "gran(3, 1) = 2",
            "gran(4, 2) = 4", "child(0, 0) = 9", "child(1, 0) = 17", "child(2, 0) = 26", "child(2, 1) = 3",
            "child(1, 2) = 1", "child(2, 2) = 2");
        TOWN.run("Promise 35, restore: again and again", "image(0) = 1", "days(5) = 5", "restore(0) = 1",
            "count(3) = 0", "days(7) = 7", "restore(0) = 1", "count(3) = 0", "child(0, 0) = 10");
        TOWN.run("Promise 35, restore: over another TOWN, a lesser and a greater one", "image(0) = 1",
            "tell l0,1;c0,0;s1,0,0; = 1", "image(1) = 1", "restore(0) = 1", "count(1) = 3", "count(2) = 5",
            "kind(4) = 5", "ahead(2, 1, 0) = 28", "restore(1) = 1", "count(1) = 1", "count(2) = 1", "kind(1) = BAD",
            "child(1, 0) = BAD", "ahead(0, 1, 0) = 1");
        TOWN.run("Promise 35, restore: ROWS, the tape, FAULTS, THE TRACE are as they are", "image(0) = 1",
            "row(3, 0, 2) = 2", "tell x = fault 0", "feed(108) = 1", "ask(3, 0) = -94", "as(0, 2) = KIND",
            "restore(0) = 1", "count(0) = 1", "count(7) = 1", "fault() = 1", "trace(0) = 13", "status() = 3",
            "drop(3) = 2");
        TOWN.run("Promise 35, restore: FED of 99, SPOILT of 20, DAY 999", "sick(3, 60) = 0", "41* days(24) = 984",
            "days(15) = 999", "image(0) = 1", "undo() = 23", "restore(0) = 1", "count(3) = 999", "days(1) = FULL");
    }

    private static void kind() {
        TOWN.run("Promise 36, kind: the first and the last, one below, one above", "kind(-1) = BAD", "kind(0) = 1",
            "kind(1) = 2", "kind(2) = 3", "kind(3) = 4", "kind(4) = 5", "kind(5) = BAD", "kind(MIN) = BAD",
            "kind(MAX) = BAD");
        SIX.run("Promise 36, kind: the last of six", "kind(5) = 2", "kind(6) = BAD");
        NEW.run("Promise 36, kind: BAD without a TOWN", "kind(0) = BAD");
    }

    private static void asNumbers() {
        TOWN.run("Promise 37, as: BAD: the first GRANDMOTHER and the last", "as(-1, 0) = BAD", "as(0, 0) = 0",
            "as(4, 0) = 4", "as(5, 0) = BAD", "as(MIN, 0) = BAD", "as(MAX, 0) = BAD");
        TOWN.run("Promise 37, as: BAD: KIND 0 and one below, 5 and one above", "as(4, -1) = BAD", "as(4, 0) = 4",
            "as(4, 5) = 4", "as(4, 6) = BAD", "as(4, MIN) = BAD", "as(4, MAX) = BAD");
        TOWN.run("Promise 37, as: BAD leaves status", "as(0, 2) = KIND", "status() = 3", "as(5, 0) = BAD",
            "as(0, 6) = BAD", "status() = 3", "as(0, 0) = 0", "status() = 0", "as(0, 6) = BAD", "status() = 0");
        NEW.run("Promise 37, as: BAD without a TOWN", "as(0, 0) = BAD", "as(0, 5) = BAD", "status() = 0");
    }

    private static void asKinds() {
        TOWN.run("Promise 37, as: SOUP, a GRAN", "as(0, 0) = 0", "as(0, 1) = 0", "as(0, 2) = KIND", "as(0, 3) = KIND",
            "as(0, 4) = KIND", "as(0, 5) = KIND");
        TOWN.run("Promise 37, as: COOK, a SOUP", "as(1, 0) = 1", "as(1, 1) = 1", "as(1, 2) = 1", "as(1, 3) = KIND",
            "as(1, 4) = KIND", "as(1, 5) = KIND");
        TOWN.run("Promise 37, as: TELLER, a SOUP", "as(2, 0) = 2", "as(2, 1) = 2", "as(2, 2) = KIND", "as(2, 3) = 2",
            "as(2, 4) = KIND", "as(2, 5) = KIND");
        TOWN.run("Promise 37, as: STERN, a GRAN", "as(3, 0) = 3", "as(3, 1) = KIND", "as(3, 2) = KIND",
            "as(3, 3) = KIND", "as(3, 4) = 3", "as(3, 5) = KIND");
        TOWN.run("Promise 37, as: SHAWL, a STERN", "as(4, 0) = 4", "as(4, 1) = KIND", "as(4, 2) = KIND",
            "as(4, 3) = KIND", "as(4, 4) = 4", "as(4, 5) = 4");
    }

    private static void askNumbers() {
        TOWN.run("Promise 38, ask: BAD: the first GRANDMOTHER and the last", "ask(0, 1) = 0", "ask(-1, 0) = BAD",
            "ask(5, 0) = BAD", "ask(MIN, 0) = BAD", "ask(MAX, 1) = BAD", "trace(0) = 21", "ask(4, 0) = -196",
            "trace(0) = 14");
        TOWN.run("Promise 38, ask: BAD: 0 and 1, one below, one above", "ask(3, -1) = BAD", "ask(3, 2) = BAD",
            "trace(0) = NONE", "ask(3, 0) = -94", "ask(3, 2) = BAD", "ask(3, -1) = BAD", "ask(3, MIN) = BAD",
            "ask(3, MAX) = BAD", "trace(0) = 13", "trace(1) = 10", "trace(2) = NONE");
        TOWN.run("Promise 38, ask: THE TRACE is empty ahead of it", "ask(1, 0) = -8", "trace(5) = 20",
            "trace(6) = NONE", "ask(3, 0) = -94", "trace(0) = 13", "trace(1) = 10", "trace(2) = NONE",
            "trace(5) = NONE");
        NEW.run("Promise 38, ask: BAD without a TOWN", "ask(0, 0) = BAD", "ask(0, 1) = BAD", "ask(0, 2) = BAD",
            "trace(0) = NONE");
    }

    private static void askBodies() {
        SIX.run("Promise 38, ask: SIZE of one with soup, 11", "ask(0, 0) = 5", "trace(0) = 11", "trace(1) = 10",
            "trace(2) = 21", "trace(3) = 20", "trace(4) = NONE");
        SIX.run("Promise 38, ask: SIZE of a cook, 12", "ask(1, 0) = -19", "trace(0) = 12", "trace(1) = 11",
            "trace(2) = 10", "trace(3) = 24", "trace(4) = 21", "trace(5) = 20", "trace(6) = NONE", "ask(5, 0) = -19");
        SIX.run("Promise 38, ask: SIZE of a teller, the nearest is 11", "ask(2, 0) = -985", "trace(0) = 11",
            "trace(1) = 10", "trace(2) = 22", "trace(3) = 21", "trace(4) = 20", "trace(5) = NONE");
        SIX.run("Promise 38, ask: SIZE of a stern one, 13", "ask(3, 0) = -99", "trace(0) = 13", "trace(1) = 10",
            "trace(2) = NONE");
        SIX.run("Promise 38, ask: SIZE of one in a shawl, 14", "ask(4, 0) = -182", "trace(0) = 14", "trace(1) = 13",
            "trace(2) = 10", "trace(3) = NONE");
        SIX.run("Promise 38, ask: MARK of one with soup, 21", "ask(0, 1) = 4", "trace(0) = 21", "trace(1) = 20",
            "trace(2) = NONE");
        SIX.run("Promise 38, ask: MARK of a cook, 24", "ask(1, 1) = 10", "trace(0) = 24", "trace(1) = 21",
            "trace(2) = 20", "trace(3) = NONE", "ask(5, 1) = 18");
        SIX.run("Promise 38, ask: MARK of a teller, 22", "ask(2, 1) = -994", "trace(0) = 22", "trace(1) = 21",
            "trace(2) = 20", "trace(3) = NONE");
        SIX.run("Promise 38, ask: MARK of a stern one, 23", "ask(3, 1) = 102", "trace(0) = 23", "trace(1) = 20",
            "trace(2) = 13", "trace(3) = 10", "trace(4) = NONE");
        SIX.run("Promise 38, ask: MARK of one in a shawl, the nearest is 23", "ask(4, 1) = 186", "trace(0) = 23",
            "trace(1) = 20", "trace(2) = 14", "trace(3) = 13", "trace(4) = 10", "trace(5) = NONE");
        SIX.run("Promise 38, ask: FIRST as it is now", "swap(0, 0) = 4", "ask(0, 1) = 0", "ask(0, 0) = 1", "undo() = 0",
            "ask(0, 1) = 4");
    }

    private static void trace() {
        TOWN.run("Promise 39, trace: NONE, when nothing was asked", "trace(-1) = NONE", "trace(0) = NONE",
            "trace(1) = NONE", "trace(15) = NONE", "trace(16) = NONE", "trace(MIN) = NONE", "trace(MAX) = NONE");
        TOWN.run("Promise 39, trace: the first and the last, one below, one above", "ask(1, 0) = -8",
            "trace(-1) = NONE", "trace(0) = 12", "trace(5) = 20", "trace(6) = NONE", "trace(15) = NONE",
            "trace(16) = NONE", "trace(MIN) = NONE", "trace(MAX) = NONE");
        TOWN.run("Promise 39, trace: it stays behind other calls", "ask(3, 0) = -94", "days(1) = 1", "undo() = 0",
            "as(0, 2) = KIND", "kind(0) = 1", "trace(0) = 13", "trace(1) = 10", "trace(2) = NONE");
        NEW.run("Promise 39, trace: NONE without a TOWN", "trace(0) = NONE", "trace(-1) = NONE");
    }

    private static void countNumbers() {
        NEW.run("Promise 40, count: 0 to 7, one below, one above", "count(-1) = BAD", "count(0) = 0", "count(7) = 0",
            "count(8) = BAD", "count(MIN) = BAD", "count(MAX) = BAD");
        TOWN.run("Promise 40, count: BAD with a TOWN, too", "count(-1) = BAD", "count(8) = BAD", "count(1) = 3");
    }

    private static void counts() {
        NEW.run("Promise 40, count: 0 ROWS, none to all", "count(0) = 0", "row(7, 0, 0) = 0", "count(0) = 1",
            "drop(7) = 0", "count(0) = 0");
        TOWN.run("Promise 40, count: 1 CHILDREN, 2 GRANDMOTHERS, 3 DAY", "count(1) = 3", "count(2) = 5", "count(3) = 0",
            "days(24) = 24", "count(3) = 24", "undo() = 23", "count(3) = 23");
        TOWN.run("Promise 40, count: 4 FED of all, 5 SPOILT of all", "count(4) = 40", "count(5) = 24", "days(1) = 1",
            "count(4) = 46", "count(5) = 18", "spoil(2, 20) = 20", "count(5) = 38");
        new Script(C,
            "tell l0,1;c60,20;c60,20;c60,20;c60,20;c60,20;o9,0,1;o9,1,1;o9,2,1;o9,3,1;o9,4,1;o9,0,1; = 6")
            .run("Promise 40, count: 4, 5 the most there can be",
            "count(4) = 300", "count(5) = 100", "days(24) = 24", "count(4) = 495", "count(5) = 100");
        TOWN.run("Promise 40, count: 6 ACTS, 24 at most", "count(6) = 0", "spoil(0, 1)", "count(6) = 1",
            "days(22) = 22", "count(6) = 23", "spoil(0, 1)", "count(6) = 24", "spoil(0, 1)", "count(6) = 24");
        NEW.run("Promise 40, count: 7 bytes on the tape, 100 at most", "count(7) = 0", "feed(1) = 1", "count(7) = 1",
            "99* feed(1) = 100", "count(7) = 100", "feed(1) = FULL", "count(7) = 100", "town() = fault 0",
            "count(7) = 0");
    }

    private static void status() {
        TOWN.run("Promise 41, status: as() counts like calls with a ROW", "set(0, 0, 0) = NULL", "status() = 1",
            "as(0, 0) = 0", "status() = 0", "as(0, 5) = KIND", "status() = 3");
        TOWN.run("Promise 41, status: kind(), ask(), count() do not count", "as(0, 5) = KIND", "kind(0) = 1",
            "kind(9) = BAD", "ask(0, 0) = 5", "ask(9, 0) = BAD", "count(0) = 0", "count(9) = BAD", "trace(0) = 11",
            "status() = 3");
        TOWN.run("Promise 41, status: STATE and FULL do not count", "set(0, 0, 0) = NULL", "restore(0) = STATE",
            "undo() = STATE", "quarrel(0, 1, 0) = STATE", "100* feed(0) = 100", "feed(0) = FULL", "status() = 1");
    }
}
