/** The boundary cases of promises 1 to 5 and of status for rows, a run for each sentence of the document. */
public final class RowsEdgesTest {
    private static final Check C = new Check("RowsEdgesTest");
    private static final Script NEW = new Script(C);

    public static void main(String[] args) {
        rowNumbers();
        rowItems();
        setPlaces();
        setBits();
        copyFindings();
        copyEnds();
        copyItems();
        drop();
        apart();
        status();
        C.end();
    }

    private static void rowNumbers() {
        NEW.run("Promise 2, row: ROWS 0 .. 7, the least and one below", "row(0, 0, 1) = 1", "count(0) = 1",
            "row(-1, 0, 1) = BAD", "count(0) = 1", "row(MIN, 0, 1) = BAD");
        NEW.run("Promise 2, row: ROWS 0 .. 7, the most and one above", "row(7, 0, 1) = 1", "count(0) = 1",
            "row(8, 0, 1) = BAD", "count(0) = 1", "row(MAX, 0, 1) = BAD");
        NEW.run("Promise 2, row: LANE 0, the least, and one below", "row(0, 0, 2) = 2", "row(0, -1, 2) = BAD",
            "row(0, MIN, 2) = BAD", "set(0, 0, 255) = -1");
        NEW.run("Promise 2, row: LANE 2, the most, and one above", "row(0, 2, 2) = 2", "row(0, 3, 2) = BAD",
            "row(0, MAX, 2) = BAD", "set(0, 0, 70000) = 70000");
        NEW.run("Promise 2, row: LANE 1 lies between", "row(0, 1, 2) = 2", "set(0, 0, 255) = 255",
            "set(0, 0, 65535) = -1");
        NEW.run("Promise 2, row: all ROWS can be there", "row(0, 0, 0) = 0", "row(1, 0, 0) = 0", "row(2, 0, 0) = 0",
            "row(3, 0, 0) = 0", "row(4, 0, 0) = 0", "row(5, 0, 0) = 0", "row(6, 0, 0) = 0", "row(7, 0, 0) = 0",
            "count(0) = 8", "row(8, 0, 0) = BAD", "row(3, 0, 0) = 0", "count(0) = 8");
    }

    private static void rowItems() {
        NEW.run("Promise 2, row: none are enough, SIZE is fewer than none", "row(3, 0, 0) = 0", "status() = 0",
            "row(3, 0, -1) = SIZE", "status() = 4", "row(3, 0, MIN) = SIZE", "count(0) = 1", "drop(3) = 0");
        NEW.run("Promise 2, row: n of 40, and above 40", "row(3, 0, 39) = 39", "row(3, 0, 40) = 40",
            "row(3, 0, 41) = BAD", "row(3, 0, MAX) = BAD", "drop(3) = 40");
        NEW.run("Promise 2, row: SIZE leaves a missing one missing", "row(5, 2, -1) = SIZE", "count(0) = 0",
            "set(5, 0, 0) = NULL");
        NEW.run("Promise 2, row: BAD comes ahead of SIZE", "row(8, 0, -1) = BAD", "row(-1, 0, -1) = BAD",
            "row(0, 3, -1) = BAD", "row(0, -1, -1) = BAD", "status() = 0");
        NEW.run("Promise 2, row: what is refused leaves the ITEMS", "row(0, 1, 3) = 3", "set(0, 0, 1) = 1",
            "set(0, 2, 3) = 3", "row(0, 1, 41) = BAD", "row(0, 3, 3) = BAD", "row(0, 1, -1) = SIZE",
            "set(0, 2, 32768) = -32768", "drop(0) = 3");
        NEW.run("Promise 2, row: in place of what is there, a lesser one", "row(0, 2, 40) = 40", "set(0, 39, 1) = 1",
            "row(0, 2, 39) = 39", "set(0, 38, 1) = 1", "set(0, 39, 1) = PLACE", "count(0) = 1");
        NEW.run("Promise 2, row: in place of what is there, a greater one", "row(0, 2, 1) = 1", "set(0, 1, 1) = PLACE",
            "row(0, 2, 2) = 2", "set(0, 1, 1) = 1", "set(0, 2, 1) = PLACE");
        NEW.run("Promise 2, row: in place of what is there, another LANE", "row(0, 2, 1) = 1", "set(0, 0, 256) = 256",
            "row(0, 0, 1) = 1", "set(0, 0, 256) = 0");
        new Script(C, "tell l0,1;c0,0;c7,0;n1,0,0; = 1").run("Terms 1: ITEMS are 0 at first, and anew",
            "row(0, 0, 3) = 3", "firsts(0, 0, 0, 0, 3) = 3", "set(0, 0, 7) = 7", "set(0, 2, 7) = 7",
            "firsts(0, 0, 0, 0, 1) = 0", "firsts(1, 0, 0, 0, 1) = 3", "firsts(1, 0, 0, 2, 1) = 3", "row(0, 0, 3) = 3",
            "firsts(0, 0, 0, 0, 3) = 3", "set(0, 2, 7) = 7", "drop(0) = 3", "row(0, 1, 12) = 12",
            "firsts(0, 0, 0, 0, 12) = 3");
    }

    private static void setPlaces() {
        NEW.run("Promise 3, set: BAD: ROW", "row(0, 0, 1) = 1", "row(7, 0, 1) = 1", "set(0, 0, 4) = 4",
            "set(-1, 0, 4) = BAD", "set(7, 0, 4) = 4", "set(8, 0, 4) = BAD", "set(MIN, 0, 4) = BAD",
            "set(MAX, 0, 4) = BAD");
        NEW.run("Promise 3, set: NULL: missing at first", "set(0, 0, 0) = NULL", "set(7, 0, 0) = NULL", "status() = 1");
        NEW.run("Promise 3, set: NULL ahead of PLACE", "set(0, -1, 0) = NULL", "set(0, 41, 0) = NULL");
        NEW.run("Promise 3, set: NULL once dropped", "row(2, 1, 4) = 4", "set(2, 3, 1) = 1", "drop(2) = 4",
            "set(2, 3, 1) = NULL");
        NEW.run("Promise 3, set: BAD ahead of NULL and PLACE", "set(8, -1, 0) = BAD", "set(-1, 41, 0) = BAD");
        NEW.run("Promise 3, set: PLACE, the first ITEM and one ahead of it", "row(0, 0, 3) = 3", "set(0, 0, 2) = 2",
            "set(0, -1, 2) = PLACE", "status() = 2", "set(0, MIN, 2) = PLACE");
        NEW.run("Promise 3, set: PLACE, the last ITEM and one behind it", "row(0, 0, 3) = 3", "set(0, 2, 2) = 2",
            "set(0, 3, 2) = PLACE", "status() = 2", "set(0, 39, 2) = PLACE", "set(0, MAX, 2) = PLACE");
        NEW.run("Promise 3, set: PLACE in a ROW of 40", "row(0, 2, 40) = 40", "set(0, 39, 2) = 2",
            "set(0, 40, 2) = PLACE");
        NEW.run("Promise 3, set: PLACE in a ROW of none", "row(0, 2, 0) = 0", "set(0, 0, 2) = PLACE",
            "set(0, -1, 2) = PLACE");
    }

    private static void setBits() {
        NEW.run("Promise 3, set: the lowest 8 bits", "row(0, 0, 1) = 1", "set(0, 0, 127) = 127",
            "set(0, 0, 128) = -128", "set(0, 0, 255) = -1", "set(0, 0, 256) = 0", "set(0, 0, 257) = 1",
            "set(0, 0, -1) = -1", "set(0, 0, -128) = -128", "set(0, 0, -129) = 127", "set(0, 0, MAX) = -1",
            "set(0, 0, MIN) = 0");
        NEW.run("Promise 3, set: the lowest 16 bits", "row(0, 1, 1) = 1", "set(0, 0, 128) = 128",
            "set(0, 0, 32767) = 32767", "set(0, 0, 32768) = -32768", "set(0, 0, 65535) = -1", "set(0, 0, 65536) = 0",
            "set(0, 0, -32768) = -32768", "set(0, 0, -32769) = 32767", "set(0, 0, MAX) = -1", "set(0, 0, MIN) = 0");
        NEW.run("Promise 3, set: all 32 bits", "row(0, 2, 1) = 1", "set(0, 0, 32768) = 32768",
            "set(0, 0, 65536) = 65536", "set(0, 0, MAX) = 2147483647", "set(0, 0, MIN) = -2147483648");
        new Script(C, "tell l0,1;c1,0;n1,0,0; = 1").run("Promise 3, set: what was cut off is gone", "row(0, 0, 1) = 1",
            "set(0, 0, 257) = 1", "who(0, 0, 0, 0, 1) = 24", "row(1, 1, 1) = 1", "set(1, 0, 65537) = 1",
            "who(0, 0, 1, 0, 1) = 24", "row(2, 2, 1) = 1", "set(2, 0, 65537) = 65537", "who(0, 0, 2, 0, 1) = 0");
    }

    private static void copyFindings() {
        NEW.run("Promise 4, copy: BAD: ROWS", "row(0, 0, 1) = 1", "row(7, 0, 1) = 1", "copy(0, 0, 7, 0, 1) = 1",
            "copy(7, 0, 0, 0, 1) = 1", "copy(-1, 0, 0, 0, 1) = BAD", "copy(8, 0, 0, 0, 1) = BAD",
            "copy(0, 0, -1, 0, 1) = BAD", "copy(0, 0, 8, 0, 1) = BAD", "copy(MIN, 0, MAX, 0, 1) = BAD");
        NEW.run("Promise 4, copy: BAD ahead of NULL, STORE and PLACE", "row(0, 0, 1) = 1", "copy(8, 0, 1, 0, 0) = BAD",
            "copy(1, 0, 8, 0, 0) = BAD", "copy(0, -1, 8, 0, -1) = BAD", "status() = 0");
        NEW.run("Promise 4, copy: NULL, either of them", "copy(0, 0, 1, 0, 0) = NULL", "copy(0, 0, 0, 0, 0) = NULL",
            "row(0, 0, 1) = 1", "copy(0, 0, 1, 0, 0) = NULL", "copy(1, 0, 0, 0, 0) = NULL", "status() = 1");
        NEW.run("Promise 4, copy: NULL ahead of PLACE", "row(0, 0, 1) = 1", "copy(0, 0, 1, 0, -1) = NULL",
            "copy(0, 2, 1, 0, 1) = NULL", "copy(1, 0, 0, -1, 1) = NULL");
        NEW.run("Promise 4, copy: NULL ahead of STORE", "row(0, 1, 1) = 1", "row(1, 0, 1) = 1", "drop(1) = 1",
            "copy(0, 0, 1, 0, 1) = NULL", "copy(1, 0, 0, 0, 1) = NULL");
        NEW.run("Promise 4, copy: STORE, ROWS of two LANES, even of none", "row(0, 0, 2) = 2", "row(1, 1, 2) = 2",
            "row(2, 2, 2) = 2", "copy(0, 0, 1, 0, 0) = STORE", "status() = 5", "copy(1, 0, 0, 0, 1) = STORE",
            "copy(0, 0, 2, 0, 2) = STORE", "copy(2, 0, 0, 0, 0) = STORE", "copy(1, 0, 2, 0, 1) = STORE",
            "copy(2, 0, 1, 0, 1) = STORE");
        NEW.run("Promise 4, copy: STORE ahead of PLACE", "row(0, 0, 2) = 2", "row(1, 1, 2) = 2",
            "copy(0, -1, 1, 0, 1) = STORE", "copy(0, 0, 1, 3, 0) = STORE", "copy(0, 0, 1, 0, -1) = STORE",
            "copy(0, 0, 1, 0, 3) = STORE");
    }

    private static void copyEnds() {
        Script two = new Script(C, "row(0, 1, 4) = 4", "row(1, 1, 3) = 3", "set(0, 0, 1) = 1", "set(0, 3, 4) = 4",
            "set(1, 0, 2) = 2");
        two.run("Promise 4, copy: PLACE, i below 0", "copy(0, 0, 1, 0, 1) = 1", "copy(0, -1, 1, 0, 1) = PLACE",
            "copy(0, -1, 1, 0, 0) = PLACE", "copy(0, MIN, 1, 0, 1) = PLACE", "status() = 2");
        two.run("Promise 4, copy: PLACE, j below 0", "copy(0, 0, 1, 0, 1) = 1", "copy(0, 0, 1, -1, 1) = PLACE",
            "copy(0, 0, 1, -1, 0) = PLACE", "copy(0, 0, 1, MIN, 1) = PLACE", "status() = 2");
        two.run("Promise 4, copy: PLACE, n below 0", "copy(0, 0, 1, 0, 0) = 0", "copy(0, 0, 1, 0, -1) = PLACE",
            "copy(0, 1, 1, 1, -1) = PLACE", "copy(0, 0, 1, 0, MIN) = PLACE", "status() = 2");
        two.run("Promise 4, copy: PLACE, beyond the end of a", "copy(0, 3, 1, 0, 1) = 1", "copy(0, 3, 1, 0, 2) = PLACE",
            "copy(0, 4, 1, 0, 0) = 0", "copy(0, 4, 1, 0, 1) = PLACE", "copy(0, 5, 1, 0, 0) = PLACE",
            "copy(0, MAX, 1, 0, 1) = PLACE", "copy(0, MAX, 1, 0, MAX) = PLACE");
        two.run("Promise 4, copy: PLACE, beyond the end of b", "copy(0, 0, 1, 2, 1) = 1", "copy(0, 0, 1, 2, 2) = PLACE",
            "copy(0, 0, 1, 3, 0) = 0", "copy(0, 0, 1, 3, 1) = PLACE", "copy(0, 0, 1, 4, 0) = PLACE",
            "copy(0, 0, 1, MAX, 1) = PLACE", "copy(0, 1, 1, 1, MAX) = PLACE");
        two.run("Promise 4, copy: as many as there are, and one more", "copy(0, 0, 1, 0, 3) = 3",
            "copy(0, 1, 1, 0, 3) = 3", "copy(0, 0, 1, 0, 4) = PLACE", "copy(1, 0, 0, 1, 3) = 3",
            "copy(1, 0, 0, 2, 3) = PLACE");
        NEW.run("Promise 4, copy: ROWS of none and of 40", "row(0, 0, 0) = 0", "row(1, 0, 0) = 0", "row(2, 0, 40) = 40",
            "row(3, 0, 40) = 40", "copy(0, 0, 1, 0, 0) = 0", "copy(0, 0, 1, 0, 1) = PLACE", "copy(2, 40, 0, 0, 0) = 0",
            "copy(2, 0, 3, 0, 40) = 40", "copy(2, 0, 3, 0, 41) = PLACE", "copy(2, 39, 3, 39, 1) = 1",
            "copy(2, 40, 3, 39, 1) = PLACE", "copy(2, 39, 3, 40, 1) = PLACE");
    }

    /** FED of the children is 1, 2, 3, 4, 5 always, so that each can tell where its number stands. */
    private static void copyItems() {
        Script read = new Script(C, "tell l0,1;c1,0;c2,0;c3,0;c4,0;c5,0;n1,0,0; = 1", "row(0, 2, 5) = 5",
            "set(0, 0, 1) = 1", "set(0, 1, 2) = 2", "set(0, 2, 3) = 3", "set(0, 3, 4) = 4", "set(0, 4, 5) = 5");
        read.run("Promise 4, copy: onwards over itself, as they were ahead", "copy(0, 0, 0, 1, 4) = 4",
            "firsts(0, 0, 0, 0, 2) = 31", "firsts(1, 0, 0, 2, 1) = 31", "firsts(2, 0, 0, 3, 1) = 31",
            "firsts(3, 0, 0, 4, 1) = 31");
        read.run("Promise 4, copy: back over itself, as they were ahead", "copy(0, 1, 0, 0, 4) = 4",
            "firsts(1, 0, 0, 0, 1) = 31", "firsts(2, 0, 0, 1, 1) = 31", "firsts(3, 0, 0, 2, 1) = 31",
            "firsts(4, 0, 0, 3, 2) = 31");
        read.run("Promise 4, copy: to where they are", "copy(0, 0, 0, 0, 5) = 5", "firsts(0, 0, 0, 0, 1) = 31",
            "firsts(4, 0, 0, 4, 1) = 31");
        read.run("Promise 4, copy: those of b ahead and behind stay, those of a stay", "row(1, 2, 5) = 5",
            "set(1, 0, 5) = 5", "set(1, 1, 5) = 5", "set(1, 2, 5) = 5", "set(1, 3, 5) = 5", "copy(0, 1, 1, 1, 2) = 2",
            "firsts(4, 0, 1, 0, 1) = 31", "firsts(1, 0, 1, 1, 1) = 31", "firsts(2, 0, 1, 2, 1) = 31",
            "firsts(4, 0, 1, 3, 1) = 31", "firsts(1, 0, 0, 1, 1) = 31", "firsts(2, 0, 0, 2, 1) = 31", "drop(0) = 5",
            "firsts(1, 0, 1, 1, 1) = 31");
        read.run("Promise 4, copy: none changes nothing", "row(1, 2, 1) = 1", "set(1, 0, 5) = 5",
            "copy(0, 0, 1, 0, 0) = 0", "firsts(4, 0, 1, 0, 1) = 31", "copy(0, 0, 1, 0, 1) = 1",
            "firsts(0, 0, 1, 0, 1) = 31");
    }

    private static void drop() {
        NEW.run("Promise 5, drop: BAD", "row(0, 0, 1) = 1", "row(7, 0, 2) = 2", "drop(-1) = BAD", "drop(8) = BAD",
            "drop(MIN) = BAD", "drop(MAX) = BAD", "count(0) = 2", "drop(0) = 1", "drop(7) = 2", "count(0) = 0");
        NEW.run("Promise 5, drop: NULL", "drop(0) = NULL", "status() = 1", "drop(7) = NULL", "row(0, 0, 3) = 3",
            "drop(0) = 3", "status() = 0", "drop(0) = NULL", "status() = 1");
        NEW.run("Promise 5, drop: how many ITEMS it had, none and 40", "row(0, 1, 0) = 0", "drop(0) = 0",
            "row(0, 1, 40) = 40", "drop(0) = 40", "row(0, 2, 5) = 5", "drop(0) = 5");
        NEW.run("Promise 5, drop: a ROW can be made anew", "row(4, 0, 3) = 3", "drop(4) = 3", "row(4, 2, 2) = 2",
            "set(4, 1, 70000) = 70000", "set(4, 2, 0) = PLACE", "count(0) = 1");
        NEW.run("Promise 5, drop: the others stay", "row(3, 0, 2) = 2", "row(4, 0, 3) = 3", "row(5, 0, 4) = 4",
            "drop(4) = 3", "count(0) = 2", "set(3, 1, 1) = 1", "set(5, 3, 1) = 1", "set(4, 0, 1) = NULL");
    }

    private static void apart() {
        new Script(C, "tell l0,1;c0,0;s1,0,0; = 1", "days(2) = 2", "image(0) = 1", "ask(0, 1) = 0",
            "feed(108) = 1").run("Promises 2 to 5: ROWS are no part of a TOWN, nor ACTS", "row(0, 0, 3) = 3",
            "row(1, 0, 3) = 3", "set(0, 1, 2) = 2", "copy(0, 0, 1, 1, 2) = 2", "drop(0) = 3", "count(6) = 2",
            "trace(0) = 21", "count(7) = 1", "fault() = 0", "undo() = 1", "count(0) = 1", "child(0, 0) = 1",
            "restore(0) = 1", "count(0) = 1", "child(0, 0) = 2", "drop(1) = 3");
    }

    private static void status() {
        Script town = new Script(C, "tell l0,1;c0,0;s1,0,0; = 1", "row(0, 0, 1) = 1", "row(1, 1, 1) = 1");
        NEW.run("Promise 41, status: 0, there was none", "status() = 0", "row(8, 0, 0) = BAD", "status() = 0");
        town.run("Promise 41, status: 1 NULL, until a call has none", "set(2, 0, 0) = NULL", "status() = 1",
            "row(2, 0, 0) = 0", "status() = 0", "drop(3) = NULL", "status() = 1", "drop(2) = 0", "status() = 0",
            "who(0, 0, 2, 0, 1) = NULL", "status() = 1", "who(0, 0, 0, 0, 1) = 24", "status() = 0");
        town.run("Promise 41, status: 2 PLACE, until a call has none", "set(0, 1, 0) = PLACE", "status() = 2",
            "set(0, 0, 0) = 0", "status() = 0", "firsts(0, 0, 0, 1, 1) = PLACE", "status() = 2",
            "firsts(0, 0, 0, 0, 1) = 0", "status() = 0", "steps(0, 0, 0, 0, 2) = PLACE", "status() = 2",
            "steps(0, 0, 0, 0, 1) = 0", "status() = 0");
        town.run("Promise 41, status: 3 KIND, until a call has none", "as(0, 2) = KIND", "status() = 3", "as(0, 1) = 0",
            "status() = 0", "as(0, 4) = KIND", "status() = 3", "copy(0, 0, 0, 0, 1) = 1", "status() = 0");
        town.run("Promise 41, status: 4 SIZE, until a call has none", "row(0, 0, -1) = SIZE", "status() = 4",
            "row(0, 0, 1) = 1", "status() = 0");
        town.run("Promise 41, status: 5 STORE, until a call has none", "copy(0, 0, 1, 0, 0) = STORE", "status() = 5",
            "copy(0, 0, 0, 0, 0) = 0", "status() = 0");
        town.run("Promise 41, status: of the latest, one finding behind another", "copy(0, 0, 1, 0, 0) = STORE",
            "row(0, 0, -1) = SIZE", "status() = 4", "as(0, 5) = KIND", "status() = 3", "set(0, 1, 0) = PLACE",
            "status() = 2", "drop(5) = NULL", "status() = 1");
        town.run("Promise 41, status: BAD calls with a ROW do not count", "copy(0, 0, 1, 0, 0) = STORE",
            "row(8, 0, 0) = BAD", "set(8, 0, 0) = BAD", "copy(8, 0, 0, 0, 0) = BAD", "drop(8) = BAD",
            "who(1, 0, 0, 0, 1) = BAD", "firsts(0, 1, 0, 0, 1) = BAD", "steps(0, 0, 0, 0, 0) = BAD", "as(1, 0) = BAD",
            "status() = 5");
        town.run("Promise 41, status: calls without a ROW do not count", "set(0, 1, 0) = PLACE", "days(1) = 1",
            "days(0) = BAD", "undo() = 0", "undo() = STATE", "sick(0, 1) = 0", "swap(0, 0) = 0", "pace(0, 1) = 0",
            "quarrel(0, 0, 1) = BAD", "spoil(0, 1) = 1", "ask(0, 0)", "trace(0) = 11", "kind(0) = 1", "image(0) = 1",
            "restore(0) = 1", "restore(1) = STATE", "feed(120) = 1", "town() = fault 0", "tell l0,1;c0,0;s1,0,0; = 1",
            "fault() = 1", "drawn(1, 1, 0) = 1", "rota(1, 1, -1) = 0", "fever(0, 1, 1) = 10", "status() = 2");
    }
}
