/** The boundary cases of promises 9 to 17, and of days (terms 2), a run for each sentence of the document. */
public final class DoneEdgesTest {
    private static final Check C = new Check("DoneEdgesTest");
    private static final Script NEW = new Script(C);
    private static final String THREE = "tell l3,2;c10,4;c0,20;c30,0;s5,0,1;o4,1,0;t3,2,2;n6,0,1;w2,1,1; = 5";
    private static final Script TOWN = new Script(C, THREE);
    private static final Script ONE = new Script(C, "tell l0,1;c0,0;s1,0,0; = 1");
    private static final Script MOST = new Script(C,
        "tell l1,6;c9,0;c9,1;c9,2;c9,3;c9,4;s1,0,0;o2,1,1;t3,2,2;n4,3,3;w5,4,4;s6,0,4; = 6");

    public static void main(String[] args) {
        undoNone();
        undoEach();
        undoKept();
        days();
        daysFull();
        sick();
        swap();
        pace();
        quarrelNumbers();
        quarrelState();
        spoil();
        gran();
        child();
        fedCut();
        spoiltCut();
        told();
        byNumbers();
        wrapsAround();
        lost();
        sickness();
        C.end();
    }

    private static void undoNone() {
        NEW.run("Promise 9, undo: STATE: none, without a TOWN", "undo() = STATE", "count(6) = 0");
        TOWN.run("Promise 9, undo: STATE: none, when nothing was done", "undo() = STATE", "days(1) = 1", "undo() = 0",
            "undo() = STATE", "count(3) = 0");
        TOWN.run("Promise 9, undo: how many can be undone yet", "sick(0, 1) = 0", "days(2) = 2", "undo() = 2",
            "count(6) = 2", "undo() = 1", "count(6) = 1", "undo() = 0", "count(6) = 0", "undo() = STATE");
        TOWN.run("Promise 9, undo: what is refused is no ACT", "days(0) = BAD", "sick(0, 61) = BAD", "swap(0, 3) = BAD",
            "pace(0, 5) = BAD", "quarrel(0, 1, 0) = STATE", "spoil(0, 0) = BAD", "count(6) = 0", "undo() = STATE");
        TOWN.run("Promise 9, undo: what is told or foretold is no ACT", "row(0, 0, 1) = 1", "set(0, 0, 1) = 1",
            "image(0) = 1", "ask(0, 0)", "feed(0) = 1", "rota(7, 1, -1)", "drawn(9, 9, 0)", "count(6) = 0",
            "undo() = STATE");
        TOWN.run("Promise 9, undo: what was undone is no ACT and cannot be done again", "spoil(0, 1) = 5", "undo() = 0",
            "child(0, 1) = 4", "undo() = STATE", "child(0, 1) = 4");
    }

    private static void undoEach() {
        Script acted = new Script(C, THREE, "days(2) = 2", "sick(1, 5) = 0", "quarrel(0, 3, 1) = 8", "image(1) = 1",
            "spoil(2, 18) = 18", "row(0, 0, 2) = 2", "set(0, 1, 3) = 3", "ask(1, 0)", "feed(108) = 1");
        acted.undone("Promise 9, undo: a DAY", "days(1)");
        acted.undone("Promise 9, undo: n DAYS, one by one", "days(19)");
        acted.undone("Promise 9, undo: sick", "sick(0, 60)");
        acted.undone("Promise 9, undo: well again", "sick(1, 0)");
        acted.undone("Promise 9, undo: FIRST", "swap(0, 2)");
        acted.undone("Promise 9, undo: FIRST that is so", "swap(0, 0)");
        acted.undone("Promise 9, undo: STEP", "pace(0, 4)");
        acted.undone("Promise 9, undo: STEP that is so", "pace(0, 1)");
        acted.undone("Promise 9, undo: two QUARREL", "quarrel(4, 2, 1)");
        acted.undone("Promise 9, undo: two QUARREL no more", "quarrel(3, 0, 0)");
        acted.undone("Promise 9, undo: a gift", "spoil(0, 1)");
        acted.undone("Promise 9, undo: a gift that is cut", "spoil(2, 20)");
        acted.undone("Promise 9, undo: the latest first", "spoil(0, 3)", "days(2)", "quarrel(3, 0, 0)", "swap(3, 1)",
            "sick(3, 1)", "days(1)", "pace(2, 0)", "sick(1, 9)", "swap(3, 2)", "days(3)");
    }

    private static void undoKept() {
        TOWN.run("Promise 9, undo: 24 are kept, 23", "days(23) = 23", "count(6) = 23", "23* undo() = 0", "count(3) = 0",
            "undo() = STATE");
        TOWN.run("Promise 9, undo: 24 are kept, 24", "days(23) = 23", "spoil(0, 1)", "count(6) = 24", "24* undo() = 0",
            "count(3) = 0", "child(0, 1) = 4", "undo() = STATE");
        TOWN.run("Promise 9, undo: of 25 the oldest is forgotten", "days(24) = 24", "spoil(0, 1)", "count(6) = 24",
            "undo() = 23", "count(3) = 24", "23* undo() = 0", "count(3) = 1", "undo() = STATE", "child(0, 0) = 12",
            "child(1, 0) = 6", "child(2, 0) = 28");
        TOWN.run("Promise 9, undo: of 48 the 24 oldest are forgotten", "days(24) = 24", "days(24) = 48",
            "count(6) = 24", "24* undo() = 0", "count(3) = 24", "undo() = STATE");
        TOWN.run("Promise 9, undo: of many the oldest are forgotten", "days(24) = 24", "days(24) = 48", "days(12) = 60",
            "24* undo() = 0", "count(3) = 36", "days(5) = 41", "undo() = 4", "count(3) = 40");
        TOWN.run("Promise 9, undo: what was undone makes room", "days(24) = 24", "days(10) = 34", "10* undo() = 14",
            "count(3) = 24", "days(10) = 34", "count(6) = 24", "spoil(0, 1)", "count(6) = 24", "24* undo() = 0",
            "count(3) = 11", "undo() = STATE");
        TOWN.run("Promise 9, undo: what is refused forgets nothing", "days(24) = 24", "spoil(0, 21) = BAD",
            "quarrel(0, 1, 0) = STATE", "days(25) = BAD", "swap(5, 0) = BAD", "count(6) = 24", "24* undo() = 0",
            "count(3) = 0");
    }

    private static void days() {
        NEW.run("Promise 10, days: STATE: no TOWN, ahead of BAD", "days(1) = STATE", "days(0) = STATE",
            "days(-1) = STATE", "days(24) = STATE", "days(25) = STATE", "days(MIN) = STATE", "days(MAX) = STATE");
        TOWN.run("Promise 10, days: 1, one below", "days(0) = BAD", "days(-1) = BAD", "days(MIN) = BAD", "days(1) = 1",
            "count(3) = 1", "count(6) = 1");
        TOWN.run("Promise 10, days: 24, one above", "days(25) = BAD", "days(MAX) = BAD", "days(24) = 24",
            "count(3) = 24", "count(6) = 24");
        TOWN.run("Promise 10, days: an ACT each", "days(3) = 3", "count(6) = 3", "undo() = 2", "count(3) = 2",
            "child(0, 0) = 9", "undo() = 1", "count(3) = 1", "child(0, 0) = 12");
    }

    private static void daysFull() {
        Script late = new Script(C, "tell l1,6;c10,0;c10,0;t2,0,1; = 1", "41* days(24) = 984");
        late.run("Promise 10, days: FULL: DAY would be above 999, at once", "days(16) = FULL", "days(24) = FULL",
            "count(3) = 984", "days(15) = 999");
        late.run("Promise 10, days: FULL: DAY would be above 999, one by one", "days(14) = 998", "days(2) = FULL",
            "days(1) = 999", "days(1) = FULL", "days(24) = FULL", "count(3) = 999", "count(6) = 24");
        late.run("Promise 10, days: BAD comes ahead of FULL", "days(15) = 999", "days(0) = BAD", "days(25) = BAD",
            "days(MAX) = BAD", "days(MIN) = BAD");
        late.run("Promise 10, days: room again by undo", "days(15) = 999", "undo() = 23", "days(2) = FULL",
            "days(1) = 999");
        late.run("Promise 10, days: room again by a TOWN", "days(15) = 999", "tell l0,1;c0,0;s1,0,0; = 1",
            "days(24) = 24");
        late.run("Promise 10, days: other ACTS are done on DAY 999", "days(15) = 999", "sick(0, 3) = 0",
            "spoil(0, 1) = 1", "swap(0, 1) = 0", "pace(0, 2) = 1", "count(3) = 999", "undo() = 23");
        new Script(C, "tell l0,1;c0,0;s1,0,0; = 1", "days(1) = 1", "image(0) = 1", "41* days(24) = 985",
            "days(14) = 999").run("Promise 10, days: room again by an IMAGE", "days(1) = FULL", "restore(0) = 1",
            "days(1) = 2");
    }

    private static void sick() {
        TOWN.run("Promise 11, sick: 0 to 60, the least and one below", "sick(0, 0) = 0", "sick(0, -1) = BAD",
            "sick(0, MIN) = BAD", "gran(0, 3) = 0", "gran(0, 4) = 0", "count(6) = 1");
        TOWN.run("Promise 11, sick: 0 to 60, the most and one above", "sick(0, 60) = 0", "sick(0, 61) = BAD",
            "sick(0, MAX) = BAD", "gran(0, 3) = 60", "gran(0, 4) = NONE", "count(6) = 1");
        TOWN.run("Promise 11, sick: the first GRANDMOTHER and the last", "sick(-1, 1) = BAD", "sick(0, 1) = 0",
            "sick(4, 2) = 0", "sick(5, 1) = BAD", "sick(MIN, 1) = BAD", "sick(MAX, 1) = BAD", "gran(0, 3) = 1",
            "gran(4, 3) = 2", "gran(1, 3) = 0");
        MOST.run("Promise 11, sick: the last of six", "sick(5, 7) = 0", "gran(5, 3) = 7", "sick(6, 7) = BAD");
        TOWN.run("Promise 11, sick: for how many she was", "sick(1, 9) = 0", "sick(1, 60) = 9", "sick(1, 3) = 60",
            "days(1) = 1", "sick(1, 0) = 2", "sick(1, 1) = 0", "days(2) = 3", "sick(1, 5) = 0");
        NEW.run("Promise 11, sick: BAD without a TOWN", "sick(0, 0) = BAD", "sick(0, 61) = BAD");
    }

    private static void swap() {
        TOWN.run("Promise 12, swap: the first GRANDMOTHER and the last", "swap(-1, 0) = BAD", "swap(0, 2) = 0",
            "swap(4, 0) = 1", "swap(5, 0) = BAD", "swap(MIN, 0) = BAD", "swap(MAX, 0) = BAD", "gran(0, 1) = 2",
            "gran(4, 1) = 0");
        TOWN.run("Promise 12, swap: the first CHILD and the last", "swap(1, -1) = BAD", "swap(1, 0) = 1",
            "swap(1, 2) = 0", "swap(1, 3) = BAD", "swap(1, MIN) = BAD", "swap(1, MAX) = BAD", "gran(1, 1) = 2",
            "count(6) = 2");
        MOST.run("Promise 12, swap: the last of five CHILDREN", "swap(0, 4) = 0", "gran(0, 4) = 4", "swap(0, 5) = BAD");
        ONE.run("Promise 12, swap: the only CHILD", "swap(0, 0) = 0", "swap(0, 1) = BAD", "swap(1, 0) = BAD");
        TOWN.run("Promise 12, swap: the CHILD that it is", "swap(2, 2) = 2", "gran(2, 1) = 2", "count(6) = 1");
        TOWN.run("Promise 12, swap: FIRST is the one of DAY 0", "days(2) = 2", "swap(0, 1) = 0", "gran(0, 4) = 0",
            "gran(0, 1) = 1");
        NEW.run("Promise 12, swap: BAD without a TOWN", "swap(0, 0) = BAD");
    }

    private static void pace() {
        TOWN.run("Promise 13, pace: 0 to 4, the least and one below", "pace(0, 0) = 1", "pace(0, -1) = BAD",
            "pace(0, MIN) = BAD", "gran(0, 2) = 0", "count(6) = 1");
        TOWN.run("Promise 13, pace: 0 to 4, the most and one above", "pace(0, 4) = 1", "pace(0, 5) = BAD",
            "pace(0, MAX) = BAD", "gran(0, 2) = 4", "count(6) = 1");
        TOWN.run("Promise 13, pace: the first GRANDMOTHER and the last", "pace(-1, 0) = BAD", "pace(0, 2) = 1",
            "pace(4, 3) = 1", "pace(5, 0) = BAD", "pace(MIN, 0) = BAD", "pace(MAX, 0) = BAD", "gran(4, 2) = 3");
        ONE.run("Promise 13, pace: STEP may be more than there are CHILDREN", "pace(0, 4) = 0", "days(3) = 3",
            "gran(0, 4) = 0", "withWhom(0, 60) = 0");
        TOWN.run("Promise 13, pace: the STEP that it is", "pace(2, 2) = 2", "gran(2, 2) = 2", "count(6) = 1");
        TOWN.run("Promise 13, pace: STEP is of all DAYS, those behind, too", "days(2) = 2", "gran(0, 4) = 2",
            "pace(0, 2) = 1", "gran(0, 4) = 1");
        NEW.run("Promise 13, pace: BAD without a TOWN", "pace(0, 0) = BAD");
    }

    private static void quarrelNumbers() {
        TOWN.run("Promise 14, quarrel: 1 and 0, one above and one below", "quarrel(0, 1, 2) = BAD",
            "quarrel(0, 1, -1) = BAD", "quarrel(0, 1, MAX) = BAD", "quarrel(0, 1, MIN) = BAD", "quarrel(0, 1, 1) = 2",
            "quarrel(0, 1, 2) = BAD", "quarrel(0, 1, -1) = BAD", "quarrel(0, 1, 0) = 0", "count(6) = 2");
        TOWN.run("Promise 14, quarrel: the first GRANDMOTHER and the last", "quarrel(-1, 0, 1) = BAD",
            "quarrel(0, -1, 1) = BAD", "quarrel(5, 0, 1) = BAD", "quarrel(0, 5, 1) = BAD", "quarrel(0, 4, 1) = 16",
            "quarrel(4, 1, 1) = 3", "quarrel(MIN, MAX, 1) = BAD");
        TOWN.run("Promise 14, quarrel: BAD: alike, too, ahead of STATE", "quarrel(0, 0, 1) = BAD",
            "quarrel(0, 0, 0) = BAD", "quarrel(4, 4, 1) = BAD", "quarrel(4, 4, 0) = BAD", "gran(0, 6) = 0",
            "gran(4, 6) = 0");
        ONE.run("Promise 14, quarrel: nobody to quarrel with", "quarrel(0, 0, 1) = BAD", "quarrel(0, 1, 1) = BAD",
            "quarrel(1, 0, 1) = BAD");
        MOST.run("Promise 14, quarrel: with all others", "quarrel(5, 0, 1) = 1", "quarrel(5, 1, 1) = 3",
            "quarrel(2, 5, 1) = 32", "quarrel(5, 3, 1) = 15", "quarrel(4, 5, 1) = 32", "gran(5, 6) = 31",
            "gran(0, 6) = 32", "quarrel(5, 6, 1) = BAD");
        NEW.run("Promise 14, quarrel: BAD without a TOWN, ahead of STATE", "quarrel(0, 1, 0) = BAD");
    }

    private static void quarrelState() {
        TOWN.run("Promise 14, quarrel: STATE: it is so, no more", "quarrel(0, 1, 0) = STATE",
            "quarrel(1, 0, 0) = STATE", "gran(0, 6) = 0", "count(6) = 0");
        TOWN.run("Promise 14, quarrel: STATE: it is so, two QUARREL", "quarrel(0, 1, 1) = 2",
            "quarrel(0, 1, 1) = STATE", "quarrel(1, 0, 1) = STATE", "gran(0, 6) = 2", "gran(1, 6) = 1", "count(6) = 1");
        TOWN.run("Promise 14, quarrel: no more, then it is so", "quarrel(0, 1, 1) = 2", "quarrel(1, 0, 0) = 0",
            "quarrel(0, 1, 0) = STATE", "quarrel(1, 0, 0) = STATE", "quarrel(1, 0, 1) = 1", "count(6) = 3");
        TOWN.run("Promise 14, quarrel: with whom the first one does, others stay", "quarrel(0, 1, 1) = 2",
            "quarrel(0, 2, 1) = 6", "quarrel(3, 0, 1) = 1", "quarrel(2, 0, 0) = 0", "gran(0, 6) = 10",
            "quarrel(1, 2, 1) = 5", "quarrel(1, 0, 0) = 4");
        TOWN.run("Promise 14, quarrel: BAD comes ahead of STATE", "quarrel(0, 1, 1) = 2", "quarrel(0, 5, 1) = BAD",
            "quarrel(0, 1, 3) = BAD", "quarrel(0, 1, 1) = STATE");
    }

    private static void spoil() {
        TOWN.run("Promise 15, spoil: a gift of 1, one below", "spoil(0, 0) = BAD", "spoil(0, -1) = BAD",
            "spoil(0, MIN) = BAD", "spoil(0, 1) = 5", "count(6) = 1");
        TOWN.run("Promise 15, spoil: a gift of 20, one above", "spoil(2, 21) = BAD", "spoil(2, MAX) = BAD",
            "spoil(2, 20) = 20", "count(6) = 1");
        TOWN.run("Promise 15, spoil: the first CHILD and the last", "spoil(-1, 1) = BAD", "spoil(0, 1) = 5",
            "spoil(2, 1) = 1", "spoil(3, 1) = BAD", "spoil(MIN, 1) = BAD", "spoil(MAX, 1) = BAD", "child(1, 1) = 20");
        MOST.run("Promise 15, spoil: the last of five", "spoil(4, 1) = 5", "spoil(5, 1) = BAD");
        TOWN.run("Promise 15, spoil: SPOILT is 20 at most", "spoil(0, 15) = 19", "spoil(0, 1) = 20", "spoil(0, 1) = 20",
            "spoil(1, 20) = 20", "spoil(2, 19) = 19", "spoil(2, 2) = 20", "count(5) = 60");
        NEW.run("Promise 15, spoil: BAD without a TOWN", "spoil(0, 1) = BAD");
    }

    private static void gran() {
        TOWN.run("Promise 16, gran: the first GRANDMOTHER and the last", "gran(-1, 0) = BAD", "gran(0, 0) = 5",
            "gran(4, 0) = 2", "gran(5, 0) = BAD", "gran(MIN, 0) = BAD", "gran(MAX, 0) = BAD");
        TOWN.run("Promise 16, gran: what, 0 to 6", "gran(2, -1) = BAD", "gran(2, 0) = 3", "gran(2, 1) = 2",
            "gran(2, 2) = 2", "gran(2, 3) = 0", "gran(2, 4) = 2", "gran(2, 5) = 0", "gran(2, 6) = 0",
            "gran(2, 7) = BAD", "gran(2, MIN) = BAD", "gran(2, MAX) = BAD");
        TOWN.run("Promise 16, gran: 4 WITH whom she is today, NONE", "gran(0, 4) = 0", "sick(0, 1) = 0",
            "gran(0, 4) = NONE", "days(1) = 1", "gran(0, 4) = 1");
        TOWN.run("Promise 16, gran: 5 whether LOST today", "quarrel(0, 1, 1) = 2", "gran(0, 5) = 0", "gran(1, 5) = 0",
            "days(1) = 1", "gran(0, 5) = 1", "gran(1, 5) = 1", "gran(3, 5) = 0", "days(1) = 2", "gran(0, 5) = 0");
        TOWN.run("Promise 16, gran: 5 who is sick is not LOST, nor who would be so by her", "quarrel(0, 3, 1) = 8",
            "gran(0, 5) = 1", "gran(3, 5) = 1", "sick(0, 1) = 0", "gran(0, 5) = 0", "gran(3, 5) = 0", "sick(3, 1) = 0",
            "gran(3, 5) = 0", "days(1) = 1", "gran(0, 5) = 1", "gran(3, 5) = 1");
        TOWN.run("Promise 16, gran: 6 with whom she QUARRELS, though she is sick", "quarrel(0, 3, 1) = 8",
            "sick(0, 9) = 0", "gran(0, 6) = 8", "gran(3, 6) = 1");
        NEW.run("Promise 16, gran: BAD without a TOWN", "gran(0, 0) = BAD", "gran(0, 6) = BAD", "gran(-1, 7) = BAD");
    }

    private static void child() {
        TOWN.run("Promise 17, child: the first CHILD and the last", "child(-1, 0) = BAD", "child(0, 0) = 10",
            "child(2, 0) = 30", "child(3, 0) = BAD", "child(MIN, 0) = BAD", "child(MAX, 0) = BAD");
        TOWN.run("Promise 17, child: what, 0 to 3", "child(1, -1) = BAD", "child(1, 0) = 0", "child(1, 1) = 20",
            "child(1, 2) = 0", "child(1, 3) = 18", "child(1, 4) = BAD", "child(1, MIN) = BAD", "child(1, MAX) = BAD");
        TOWN.run("Promise 17, child: 3 who is WITH it, LOST ones, too", "child(0, 3) = 9", "quarrel(0, 3, 1) = 8",
            "child(0, 3) = 9");
        TOWN.run("Promise 17, child: 3 sick ones are WITH nobody", "sick(3, 2) = 0", "child(0, 3) = 1",
            "sick(0, 1) = 0", "child(0, 3) = 0", "days(1) = 1", "child(0, 3) = 0", "child(1, 3) = 7", "days(1) = 2",
            "child(2, 3) = 9");
        MOST.run("Promise 17, child: 3 all six WITH one", "swap(1, 0) = 1", "swap(2, 0) = 2", "swap(3, 0) = 3",
            "swap(4, 0) = 4", "child(0, 3) = 63", "child(4, 3) = 0");
        NEW.run("Promise 17, child: BAD without a TOWN", "child(0, 0) = BAD", "child(0, 3) = BAD",
            "child(-1, 4) = BAD");
    }

    private static void fedOf(String sentence, String town, int due) {
        new Script(C, "tell " + town).run("Terms 2, days: " + sentence, "days(1) = 1", "child(0, 0) = " + due);
    }

    private static void fedCut() {
        fedOf("one with soup brings ART", "l0,1;c7,0;s1,0,0;", 8);
        fedOf("one with soup brings ART, the most", "l0,1;c7,0;s9,0,0;", 16);
        fedOf("a cook brings twice that", "l0,1;c7,0;o1,0,0;", 9);
        fedOf("a cook brings twice that, the most", "l0,1;c7,0;o9,0,0;", 25);
        fedOf("a teller brings half of ART, cut, of 1", "l0,1;c7,0;t1,0,0;", 7);
        fedOf("a teller brings half of ART, cut, of 2", "l0,1;c7,0;t2,0,0;", 8);
        fedOf("a teller brings half of ART, cut, of 3", "l0,1;c7,0;t3,0,0;", 8);
        fedOf("a teller brings half of ART, cut, of 9", "l0,1;c7,0;t9,0,0;", 11);
        fedOf("a stern one brings nothing", "l0,1;c7,0;n9,0,0;", 7);
        fedOf("one in a shawl brings 1", "l0,1;c7,0;w9,0,0;", 8);
        fedOf("FED is EATS less", "l3,1;c7,0;n1,0,0;", 4);
        fedOf("FED is EATS less, to 1", "l9,1;c10,0;n1,0,0;", 1);
        fedOf("FED is EATS less, to 0", "l9,1;c9,0;n1,0,0;", 0);
        fedOf("FED is never below 0", "l9,1;c8,0;n1,0,0;", 0);
        fedOf("FED is never below 0, from 0", "l9,1;c0,0;n1,0,0;", 0);
        fedOf("nothing is eaten by EATS 0", "l0,1;c60,0;n1,0,0;", 60);
        fedOf("FED of 98", "l0,1;c60,0;o9,0,0;o9,0,0;s2,0,0;", 98);
        fedOf("FED of 99", "l0,1;c60,0;o9,0,0;o9,0,0;s3,0,0;", 99);
        fedOf("FED is never above 99", "l0,1;c60,0;o9,0,0;o9,0,0;s4,0,0;", 99);
        fedOf("FED is cut at once, ahead of EATS", "l9,1;c60,0;o9,0,0;o9,0,0;o9,0,0;", 90);
        fedOf("each eats behind what is brought", "l9,1;c0,0;s9,0,0;", 0);
        fedOf("each eats behind what is brought, 1 more", "l8,1;c0,0;s9,0,0;", 1);
        new Script(C, "tell l3,1;c60,0;o9,0,0; = 1").run("Terms 2, days: FED at its most day by day", "days(2) = 2",
            "child(0, 0) = 90", "days(1) = 3", "child(0, 0) = 96", "days(1) = 4", "child(0, 0) = 96");
    }

    private static void spoiltOf(String sentence, String town, int due) {
        new Script(C, "tell " + town).run("Terms 2, days: " + sentence, "days(1) = 1", "child(0, 1) = " + due);
    }

    private static void spoiltCut() {
        spoiltOf("a cook brings 1 to SPOILT", "l0,1;c0,0;o9,0,0;", 1);
        spoiltOf("SPOILT of 20", "l0,1;c0,19;o9,0,0;", 20);
        spoiltOf("SPOILT is never above 20", "l0,1;c0,20;o9,0,0;", 20);
        spoiltOf("SPOILT is cut at 20 at once", "l0,1;c0,20;o1,0,0;o1,0,0;n1,0,0;", 19);
        spoiltOf("a stern one takes ART", "l0,1;c0,10;n9,0,0;", 1);
        spoiltOf("a stern one takes ART, all of it", "l0,1;c0,9;n9,0,0;", 0);
        spoiltOf("SPOILT is never below 0", "l0,1;c0,8;n9,0,0;", 0);
        spoiltOf("SPOILT is cut at 0 at once", "l0,1;c0,0;n9,0,0;o1,0,0;", 1);
        spoiltOf("one in a shawl takes ART", "l0,1;c0,10;w9,0,0;", 1);
        spoiltOf("one in a shawl takes ART, never below 0", "l0,1;c0,8;w9,0,0;", 0);
        spoiltOf("one with soup does not spoil", "l0,1;c0,7;s9,0,0;", 7);
        spoiltOf("a teller does not spoil", "l0,1;c0,7;t9,0,0;", 7);
    }

    private static void told() {
        new Script(C, "tell l0,6;c0,0;t9,0,0; = 1").run("Terms 2, days: the PART is the rest of ART and DAY by PARTS",
            "days(1) = 1", "child(0, 2) = 8", "days(1) = 2", "child(0, 2) = 24", "days(1) = 3", "child(0, 2) = 56",
            "days(1) = 4", "child(0, 2) = 57", "days(1) = 5", "child(0, 2) = 59", "days(1) = 6", "child(0, 2) = 63",
            "days(1) = 7", "child(0, 2) = 63");
        new Script(C, "tell l0,1;c0,0;t9,0,0; = 1").run("Terms 2, days: a story of one PART", "days(1) = 1",
            "child(0, 2) = 1", "days(1) = 2", "child(0, 2) = 1");
        new Script(C, "tell l0,3;c0,0;c0,0;t2,0,1; = 1").run("Terms 2, days: it is TOLD, the others not", "days(1) = 1",
            "child(0, 2) = 4", "child(1, 2) = 0", "days(1) = 2", "child(0, 2) = 4", "child(1, 2) = 1");
        new Script(C, "tell l0,2;c0,0;s1,0,0;o1,0,0;n1,0,0;w1,0,0; = 4").run("Terms 2, days: only tellers tell",
            "days(4) = 4", "child(0, 2) = 0");
    }

    private static void byNumbers() {
        fedOf("by numbers, FED cut ahead of nothing that takes", "l1,1;c60,0;o9,0,0;o9,0,0;o9,0,0;w1,0,0;", 98);
        spoiltOf("by numbers, a cook ahead of a stern one", "l0,1;c0,0;o1,0,0;n1,0,0;", 0);
        spoiltOf("by numbers, a stern one ahead of a cook", "l0,1;c0,0;n1,0,0;o1,0,0;", 1);
        spoiltOf("by numbers, a cook ahead of one in a shawl", "l0,1;c0,20;o1,0,0;w1,0,0;", 19);
        spoiltOf("by numbers, one in a shawl ahead of a cook", "l0,1;c0,20;w1,0,0;o1,0,0;", 20);
    }

    private static void wrapsAround() {
        MOST.run("Terms 2: the rest of FIRST and STEP times DAY, DAY 0", "gran(0, 4) = 0", "gran(1, 4) = 1",
            "gran(2, 4) = 2", "gran(3, 4) = 3", "gran(4, 4) = 4", "gran(5, 4) = 0");
        MOST.run("Terms 2: the rest of FIRST and STEP times DAY, DAY 1", "days(1) = 1", "gran(0, 4) = 0",
            "gran(1, 4) = 2", "gran(2, 4) = 4", "gran(3, 4) = 1", "gran(4, 4) = 3", "gran(5, 4) = 4");
        MOST.run("Terms 2: the rest of FIRST and STEP times DAY, DAY 5, as on DAY 0", "days(5) = 5", "gran(0, 4) = 0",
            "gran(1, 4) = 1", "gran(2, 4) = 2", "gran(3, 4) = 3", "gran(4, 4) = 4", "gran(5, 4) = 0");
        MOST.run("Terms 2: the rest of FIRST and STEP times DAY, DAY 999", "41* days(24) = 984", "days(15) = 999",
            "gran(0, 4) = 0", "gran(1, 4) = 0", "gran(2, 4) = 0", "gran(3, 4) = 0", "gran(4, 4) = 0", "gran(5, 4) = 1");
        ONE.run("Terms 2: one CHILD has her always", "pace(0, 3) = 0", "days(7) = 7", "gran(0, 4) = 0",
            "child(0, 0) = 7");
    }

    private static void lost() {
        Script four = new Script(C, "tell l0,2;c9,9;c9,9;s1,0,0;o2,0,0;t3,0,0;w4,0,0; = 4");
        four.run("Terms 2: none is LOST without a QUARREL", "days(1) = 1", "child(0, 0) = 16", "child(0, 1) = 6",
            "child(0, 2) = 2");
        four.run("Terms 2: both are LOST, the others bring", "quarrel(0, 1, 1) = 2", "gran(0, 5) = 1", "gran(1, 5) = 1",
            "gran(2, 5) = 0", "gran(3, 5) = 0", "days(1) = 1", "child(0, 0) = 11", "child(0, 1) = 5",
            "child(0, 2) = 2");
        four.run("Terms 2: who is LOST tells nothing and takes nothing", "quarrel(2, 3, 1) = 8", "days(1) = 1",
            "child(0, 0) = 14", "child(0, 1) = 10", "child(0, 2) = 0");
        four.run("Terms 2: one who QUARRELS with two: all three are LOST", "quarrel(0, 1, 1) = 2",
            "quarrel(0, 2, 1) = 6", "gran(0, 5) = 1", "gran(1, 5) = 1", "gran(2, 5) = 1", "gran(3, 5) = 0",
            "days(1) = 1", "child(0, 0) = 10", "child(0, 1) = 5", "child(0, 2) = 0");
        four.run("Terms 2: two who QUARREL are not LOST WITH two CHILDREN", "quarrel(0, 1, 1) = 2", "swap(0, 1) = 0",
            "gran(0, 5) = 0", "gran(1, 5) = 0", "days(1) = 1", "child(0, 0) = 15", "child(1, 0) = 10");
        four.run("Terms 2: who is sick makes nobody LOST", "quarrel(0, 1, 1) = 2", "sick(1, 1) = 0", "gran(0, 5) = 0",
            "days(1) = 1", "child(0, 0) = 12", "gran(0, 5) = 1", "days(1) = 2", "child(0, 0) = 14");
    }

    private static void sickness() {
        ONE.run("Terms 2: sick for 1 DAY", "sick(0, 1) = 0", "days(1) = 1", "child(0, 0) = 0", "gran(0, 3) = 0",
            "days(1) = 2", "child(0, 0) = 1");
        ONE.run("Terms 2: sick for 2 DAYS", "sick(0, 2) = 0", "days(1) = 1", "gran(0, 3) = 1", "days(1) = 2",
            "gran(0, 3) = 0", "child(0, 0) = 0", "days(1) = 3", "child(0, 0) = 1", "gran(0, 3) = 0");
        ONE.run("Terms 2: sick for 60 DAYS", "sick(0, 60) = 0", "days(24) = 24", "gran(0, 3) = 36", "days(24) = 48",
            "gran(0, 3) = 12", "days(12) = 60", "gran(0, 3) = 0", "child(0, 0) = 0", "days(1) = 61", "child(0, 0) = 1");
        ONE.run("Terms 2: sick for 0 DAYS is well", "sick(0, 0) = 0", "days(1) = 1", "child(0, 0) = 1",
            "gran(0, 3) = 0");
        ONE.run("Terms 2: well in the midst of it", "sick(0, 9) = 0", "days(1) = 1", "sick(0, 0) = 8", "days(1) = 2",
            "child(0, 0) = 1");
    }
}
