/** The boundary cases of promises 18 to 27 and 31 to 33, a run for each sentence of the document. */
public final class ForetoldEdgesTest {
    private static final Check C = new Check("ForetoldEdgesTest");
    private static final Script NEW = new Script(C);
    private static final Script TOWN = new Script(C,
        "tell l3,2;c10,4;c0,20;c30,0;s5,0,1;o4,1,0;t3,2,2;n6,0,1;w2,1,1; = 5");
    private static final Script ONE = new Script(C, "tell l0,1;c0,0;s1,0,0; = 1");
    private static final Script TWO = new Script(C, "tell l0,1;c0,0;c0,0;c0,0;s1,0,0;s1,0,0; = 2");
    private static final Script SIX = new Script(C, "tell l0,1;c0,0;s1,0,0;s1,0,0;s1,0,0;s1,0,0;s1,0,0;s1,0,0; = 6");
    private static final Script MOST = new Script(C,
        "tell l0,1;c0,0;c0,0;c0,0;c0,0;c0,0;s1,0,0;s1,0,0;s1,0,0;s1,0,0;s1,0,0;t1,0,0; = 6");
    private static final Script FIVE = new Script(C, "tell l0,1;c0,0;c0,0;c0,0;c0,0;c0,0;s1,0,1;s1,0,0; = 2");

    public static void main(String[] args) {
        aheadNumbers();
        aheadDays();
        withWhom();
        whole();
        hungry();
        without();
        rotaNumbers();
        rotaDays();
        rotaWays();
        meets();
        lost();
        swapsNumbers();
        swapsPairs();
        soon();
        even();
        feverNumbers();
        feverFractions();
        drawnNumbers();
        drawnSickness();
        C.end();
    }

    private static void aheadNumbers() {
        TOWN.run("Promise 18, ahead: the first CHILD and the last", "ahead(-1, 0, 0) = BAD", "ahead(0, 0, 0) = 10",
            "ahead(2, 0, 0) = 30", "ahead(3, 0, 0) = BAD", "ahead(MIN, 0, 0) = BAD", "ahead(MAX, 0, 0) = BAD");
        TOWN.run("Promise 18, ahead: what, 0 to 2", "ahead(1, 1, -1) = BAD", "ahead(1, 1, 0) = 6",
            "ahead(1, 1, 1) = 18", "ahead(1, 1, 2) = 0", "ahead(1, 1, 3) = BAD", "ahead(1, 1, MIN) = BAD",
            "ahead(1, 1, MAX) = BAD");
        TOWN.run("Promise 18, ahead: 0 DAYS are now, one below", "ahead(0, 0, 0) = 10", "ahead(0, 0, 1) = 4",
            "ahead(0, 0, 2) = 0", "ahead(0, -1, 0) = BAD", "ahead(0, MIN, 1) = BAD");
        TOWN.run("Promise 18, ahead: 60 DAYS, one above", "ahead(0, 60, 1) = 0", "ahead(0, 61, 1) = BAD",
            "ahead(0, MAX, 2) = BAD", "count(3) = 0");
        NEW.run("Promise 18, ahead: BAD without a TOWN", "ahead(0, 0, 0) = BAD", "ahead(0, 61, 0) = BAD");
    }

    private static void aheadDays() {
        new Script(C, "tell l1,1;c60,0;n1,0,0; = 1").run("Promise 18, ahead: FED behind 59 and 60 DAYS",
            "ahead(0, 1, 0) = 59", "ahead(0, 59, 0) = 1", "ahead(0, 60, 0) = 0");
        new Script(C, "tell l0,1;c0,0;o1,0,0; = 1").run("Promise 18, ahead: FED and SPOILT are cut",
            "ahead(0, 49, 0) = 98", "ahead(0, 50, 0) = 99", "ahead(0, 60, 0) = 99", "ahead(0, 19, 1) = 19",
            "ahead(0, 20, 1) = 20", "ahead(0, 21, 1) = 20", "ahead(0, 60, 1) = 20");
        new Script(C, "tell l0,6;c0,0;t1,0,0; = 1").run("Promise 18, ahead: TOLD, and sickness runs out",
            "sick(0, 59) = 0", "ahead(0, 59, 2) = 0", "ahead(0, 60, 2) = 1", "sick(0, 60) = 59", "ahead(0, 60, 2) = 0",
            "sick(0, 54) = 60", "ahead(0, 60, 2) = 63", "ahead(0, 59, 2) = 62");
        new Script(C, "tell l1,1;c50,0;c50,0;s9,0,1; = 1", "41* days(24) = 984", "days(15) = 999").run(
            "Promise 18, ahead: DAYS above 999 can be foretold", "child(0, 0)", "ahead(0, 1, 0)", "withWhom(0, 1) = 0",
            "withWhom(0, 60) = 1", "days(1) = FULL");
    }

    private static void withWhom() {
        TOWN.run("Promise 19, withWhom: the first GRANDMOTHER and the last", "withWhom(-1, 0) = BAD",
            "withWhom(0, 0) = 0", "withWhom(4, 0) = 1", "withWhom(5, 0) = BAD", "withWhom(MIN, 0) = BAD",
            "withWhom(MAX, 0) = BAD");
        TOWN.run("Promise 19, withWhom: 0 DAYS are now, one below", "withWhom(2, 0) = 2", "withWhom(2, -1) = BAD",
            "withWhom(2, MIN) = BAD", "withWhom(2, 1) = 1");
        TOWN.run("Promise 19, withWhom: 60 DAYS, one above", "withWhom(2, 59) = 0", "withWhom(2, 60) = 2",
            "withWhom(2, 61) = BAD", "withWhom(2, MAX) = BAD");
        TOWN.run("Promise 19, withWhom: NONE: sick, then no more", "sick(0, 1) = 0", "withWhom(0, 0) = NONE",
            "withWhom(0, 1) = 1", "sick(0, 60) = 1", "withWhom(0, 59) = NONE", "withWhom(0, 60) = 0",
            "withWhom(0, 61) = BAD");
        TOWN.run("Promise 19, withWhom: LOST ones are WITH a CHILD", "quarrel(0, 3, 1) = 8", "withWhom(0, 0) = 0",
            "withWhom(3, 0) = 0");
        TOWN.run("Promise 19, withWhom: from now on", "days(2) = 2", "withWhom(0, 0) = 2", "withWhom(0, 1) = 0");
        NEW.run("Promise 19, withWhom: BAD without a TOWN", "withWhom(0, 0) = BAD", "withWhom(0, 61) = BAD");
    }

    private static void whole() {
        TOWN.run("Promise 20, whole: the first CHILD and the last", "whole(-1) = BAD", "whole(0) = 6", "whole(2) = 4",
            "whole(3) = BAD", "whole(MIN) = BAD", "whole(MAX) = BAD");
        Script teller = new Script(C, "tell l0,1;c0,0;t1,0,0; = 1");
        teller.run("Promise 20, whole: 0: now", "whole(0) = 1", "days(1) = 1", "whole(0) = 0", "days(1) = 2",
            "whole(0) = 0");
        teller.run("Promise 20, whole: 60 at most, NONE", "sick(0, 58) = 0", "whole(0) = 59", "sick(0, 59) = 58",
            "whole(0) = 60", "sick(0, 60) = 59", "whole(0) = NONE");
        new Script(C, "tell l0,6;c0,0;t9,0,0; = 1").run("Promise 20, whole: all PARTS, of six", "whole(0) = 6",
            "days(5) = 5", "whole(0) = 1", "days(1) = 6", "whole(0) = 0");
        new Script(C, "tell l0,2;c0,0;c0,0;t1,0,1; = 1").run("Promise 20, whole: NONE: one PART is never told",
            "whole(0) = NONE", "whole(1) = NONE");
        ONE.run("Promise 20, whole: NONE: nobody tells", "whole(0) = NONE");
        NEW.run("Promise 20, whole: BAD without a TOWN", "whole(0) = BAD");
    }

    private static void hungry() {
        TOWN.run("Promise 21, hungry: the first CHILD and the last", "hungry(-1) = BAD", "hungry(0)", "hungry(1) = 0",
            "hungry(2)", "hungry(3) = BAD", "hungry(MIN) = BAD", "hungry(MAX) = BAD");
        new Script(C, "tell l1,1;c60,0;c59,0;c1,0;c0,0;n1,0,0; = 1").run("Promise 21, hungry: 0: now, to 60",
            "hungry(3) = 0", "hungry(2) = 1", "hungry(1) = 59", "hungry(0) = 60");
        new Script(C, "tell l1,1;c60,0;s2,0,0; = 1").run("Promise 21, hungry: 60 at most, NONE", "sick(0, 60) = 0",
            "hungry(0) = 60", "sick(0, 0) = 60", "days(1) = 1", "child(0, 0) = 61", "sick(0, 60) = 0",
            "hungry(0) = NONE");
        new Script(C, "tell l9,1;c1,0;c1,0;s9,0,0; = 1").run("Promise 21, hungry: behind a DAY, not in its midst",
            "hungry(0) = NONE", "hungry(1) = 1");
        ONE.run("Promise 21, hungry: 0 is 0 at once, though she comes today", "hungry(0) = 0", "days(1) = 1",
            "hungry(0) = NONE");
        NEW.run("Promise 21, hungry: BAD without a TOWN", "hungry(0) = BAD");
    }

    private static void without() {
        NEW.run("Promise 22, without: STATE: no TOWN, ahead of BAD", "without(1) = STATE", "without(0) = STATE",
            "without(61) = STATE", "without(-1) = STATE", "without(MIN) = STATE", "without(MAX) = STATE");
        TWO.run("Promise 22, without: 1 DAY, one below", "without(0) = BAD", "without(-1) = BAD", "without(MIN) = BAD",
            "without(1) = 6");
        TWO.run("Promise 22, without: 60 DAYS, one above", "without(60) = 6", "without(61) = BAD",
            "without(MAX) = BAD");
        ONE.run("Promise 22, without: in them, the last DAY of them", "without(1) = 0", "sick(0, 1) = 0",
            "without(1) = 1", "without(2) = 0", "sick(0, 59) = 1", "without(59) = 1", "without(60) = 0",
            "sick(0, 60) = 59", "without(60) = 1");
        TWO.run("Promise 22, without: LOST ones do not count", "quarrel(0, 1, 1) = 2", "without(60) = 7",
            "swap(0, 1) = 0", "without(1) = 4", "sick(0, 59) = 0", "without(59) = 6", "without(60) = 4");
        FIVE.run("Promise 22, without: all five CHILDREN, one DAY after another", "sick(1, 60) = 0", "without(1) = 30",
            "without(2) = 28", "without(3) = 24", "without(4) = 16", "without(5) = 0", "sick(0, 60) = 0",
            "without(60) = 31");
    }

    private static void rotaNumbers() {
        NEW.run("Promise 23, rota: STATE: no TOWN, ahead of BAD", "rota(0, 1, -1) = STATE", "rota(-1, 1, -1) = STATE",
            "rota(0, 0, -1) = STATE", "rota(0, 15, -1) = STATE", "rota(0, 1, -2) = STATE", "rota(0, 1, 0) = STATE",
            "rota(MIN, MAX, MIN) = STATE");
        TWO.run("Promise 23, rota: 1 DAY, one below", "rota(1, 0, -1) = BAD", "rota(1, -1, -1) = BAD",
            "rota(1, MIN, -1) = BAD", "rota(1, 1, -1) = 0");
        TWO.run("Promise 23, rota: 14 DAYS, one above", "rota(1, 14, -1) = 0", "rota(1, 15, -1) = BAD",
            "rota(1, MAX, -1) = BAD");
        TWO.run("Promise 23, rota: CHILDREN, none and all, one below, one above", "rota(-1, 1, -1) = BAD",
            "rota(0, 1, -1) = 0", "rota(7, 1, -1) = NONE", "rota(8, 1, -1) = BAD", "rota(9, 1, -1) = BAD",
            "rota(MIN, 1, -1) = BAD", "rota(MAX, 1, -1) = BAD");
        FIVE.run("Promise 23, rota: CHILDREN, all five, one above", "rota(31, 5, -1) = 0", "rota(32, 5, -1) = BAD");
        ONE.run("Promise 23, rota: CHILDREN, the only one, one above", "rota(1, 1, -1) = 0", "rota(2, 1, -1) = BAD");
        TWO.run("Promise 23, rota: k, -1 and one below, the last and one above", "rota(2, 1, -2) = BAD",
            "rota(2, 1, -1) = 1", "rota(2, 1, 0) = 0", "rota(2, 1, 1) = 1", "rota(2, 1, 2) = BAD",
            "rota(2, 1, MIN) = BAD", "rota(2, 1, MAX) = BAD");
        TWO.run("Promise 23, rota: BAD comes, too, where there is no way", "rota(7, 1, 0) = NONE",
            "rota(7, 1, 1) = NONE", "rota(7, 1, 2) = BAD", "rota(7, 1, -2) = BAD", "rota(7, 15, -1) = BAD");
        SIX.run("Promise 23, rota: k, the last of six", "rota(1, 14, 5) = 0", "rota(1, 14, 6) = BAD");
    }

    private static void rotaDays() {
        TWO.run("Promise 23, rota: in the next n DAYS, the last of them", "sick(1, 13) = 0", "rota(3, 13, -1) = NONE",
            "rota(3, 14, -1) = 1", "rota(3, 14, 0) = 0", "rota(3, 14, 1) = 1", "sick(1, 14) = 13",
            "rota(3, 14, -1) = NONE");
        TWO.run("Promise 23, rota: in the next n DAYS, this one is the first", "sick(0, 1) = 0",
            "rota(3, 1, -1) = NONE", "rota(3, 2, -1) = 1", "rota(1, 1, -1) = 0");
        FIVE.run("Promise 23, rota: as many DAYS as are needed, one less", "sick(1, 60) = 0", "rota(31, 5, -1) = 0",
            "rota(31, 4, -1) = NONE", "rota(15, 4, -1) = 0", "rota(30, 4, -1) = 1", "rota(30, 4, 0) = 1",
            "rota(29, 4, -1) = 1", "rota(29, 4, 0) = 2");
        new Script(C, "tell l0,1;c0,0;c0,0;c0,0;s1,0,1; = 1", "days(1) = 1").run(
            "Promise 23, rota: by the DAY it is", "rota(2, 1, -1) = 0", "rota(2, 1, 0) = 0", "rota(1, 1, -1) = 1",
            "rota(1, 1, 0) = 2", "rota(4, 1, -1) = 1", "rota(4, 1, 0) = 1");
    }

    private static void rotaWays() {
        TWO.run("Promise 23, rota: none told, none changes", "swap(0, 2) = 0", "rota(0, 1, -1) = 0",
            "rota(0, 1, 0) = 2", "rota(0, 1, 1) = 0");
        TWO.run("Promise 23, rota: the first such way, by numbers", "rota(2, 1, -1) = 1", "rota(2, 1, 0) = 0",
            "rota(2, 1, 1) = 1", "rota(6, 1, -1) = 2", "rota(6, 1, 0) = 1", "rota(6, 1, 1) = 2");
        TWO.run("Promise 23, rota: the fewest, though another way comes first", "swap(0, 2) = 0", "swap(1, 1) = 0",
            "rota(6, 1, -1) = 0", "rota(6, 1, 0) = 2", "rota(6, 1, 1) = 1");
        TWO.run("Promise 23, rota: the first is sick, the others serve", "sick(0, 1) = 0", "rota(2, 1, -1) = 1",
            "rota(2, 1, 0) = 0", "rota(2, 1, 1) = 1", "rota(6, 1, -1) = NONE");
        MOST.run("Promise 23, rota: six, five CHILDREN", "rota(31, 1, -1) = 4", "rota(31, 1, 0) = 0",
            "rota(31, 1, 1) = 0", "rota(31, 1, 2) = 1", "rota(31, 1, 3) = 2", "rota(31, 1, 4) = 3",
            "rota(31, 1, 5) = 4", "sick(0, 1) = 0", "rota(31, 1, -1) = 4", "rota(31, 1, 0) = 0", "rota(31, 1, 1) = 0",
            "rota(31, 1, 5) = 4", "sick(1, 1) = 0", "rota(31, 1, -1) = NONE", "rota(31, 1, 5) = NONE",
            "rota(31, 2, -1) = 4");
        TWO.run("Promise 23, rota: LOST ones do not serve", "quarrel(0, 1, 1) = 2", "rota(1, 1, -1) = 1",
            "rota(1, 1, 0) = 0", "rota(1, 1, 1) = 1", "swap(1, 1) = 0", "rota(1, 1, -1) = 0");
        SIX.run("Promise 23, rota: NONE, if all are LOST", "quarrel(0, 1, 1) = 2", "quarrel(2, 3, 1) = 8",
            "quarrel(4, 5, 1) = 32", "rota(1, 14, -1) = NONE", "rota(1, 14, 0) = NONE", "rota(0, 14, -1) = 0",
            "sick(0, 1) = 0", "rota(1, 1, -1) = 0");
        ONE.run("Promise 23, rota: NONE, if she is sick", "sick(0, 1) = 0", "rota(1, 1, -1) = NONE",
            "rota(1, 1, 0) = NONE", "rota(1, 2, -1) = 0");
    }

    private static void meets() {
        TOWN.run("Promise 24, meets: the first GRANDMOTHER and the last", "meets(-1, 0) = BAD", "meets(0, -1) = BAD",
            "meets(5, 0) = BAD", "meets(0, 5) = BAD", "meets(MIN, MAX) = BAD", "meets(1, 4) = 0", "meets(4, 1) = 0",
            "meets(0, 1) = 1", "meets(1, 0) = 1");
        TOWN.run("Promise 24, meets: BAD: alike, too", "meets(0, 0) = BAD", "meets(4, 4) = BAD", "meets(5, 5) = BAD");
        ONE.run("Promise 24, meets: nobody to meet", "meets(0, 0) = BAD", "meets(0, 1) = BAD");
        TWO.run("Promise 24, meets: 0 to 60 DAYS", "meets(0, 1) = 0", "sick(0, 1) = 0", "meets(0, 1) = 1",
            "sick(1, 59) = 0", "meets(0, 1) = 59", "sick(1, 60) = 59", "meets(0, 1) = 60", "sick(0, 60) = 1",
            "meets(1, 0) = 60");
        new Script(C, "tell l0,1;c0,0;c0,0;s1,0,1;s1,1,0; = 2").run("Promise 24, meets: NONE, if it is behind 61",
            "meets(0, 1) = 1", "sick(0, 59) = 0", "meets(0, 1) = 59", "sick(0, 60) = 59", "meets(0, 1) = NONE");
        TWO.run("Promise 24, meets: NONE, never", "swap(0, 1) = 0", "meets(0, 1) = NONE");
        TWO.run("Promise 24, meets: who is LOST is WITH a CHILD", "quarrel(0, 1, 1) = 2", "meets(0, 1) = 0");
        NEW.run("Promise 24, meets: BAD without a TOWN", "meets(0, 1) = BAD");
    }

    private static void lost() {
        NEW.run("Promise 25, lost: STATE: no TOWN, ahead of BAD", "lost(1) = STATE", "lost(0) = STATE",
            "lost(61) = STATE", "lost(MIN) = STATE", "lost(MAX) = STATE");
        TWO.run("Promise 25, lost: 1 DAY, one below", "quarrel(0, 1, 1) = 2", "lost(0) = BAD", "lost(-1) = BAD",
            "lost(MIN) = BAD", "lost(1) = 2");
        TWO.run("Promise 25, lost: 60 DAYS, one above", "quarrel(0, 1, 1) = 2", "lost(60) = 120", "lost(61) = BAD",
            "lost(MAX) = BAD");
        TWO.run("Promise 25, lost: none", "lost(1) = 0", "lost(60) = 0");
        TWO.run("Promise 25, lost: the last DAY of them", "quarrel(0, 1, 1) = 2", "sick(0, 59) = 0", "lost(59) = 0",
            "lost(60) = 2", "sick(0, 60) = 59", "lost(60) = 0");
        SIX.run("Promise 25, lost: of each DAY each one, once", "quarrel(0, 1, 1) = 2", "quarrel(0, 2, 1) = 6",
            "lost(1) = 3", "quarrel(1, 2, 1) = 5", "lost(1) = 3", "quarrel(3, 4, 1) = 16", "lost(1) = 5",
            "quarrel(5, 0, 1) = 1", "lost(1) = 6", "lost(60) = 360");
    }

    private static void swapsNumbers() {
        NEW.run("Promise 26, swaps: STATE: no TOWN, ahead of BAD", "swaps(1, 0) = STATE", "swaps(0, 0) = STATE",
            "swaps(61, 0) = STATE", "swaps(1, 2) = STATE", "swaps(1, -1) = STATE", "swaps(MIN, MAX) = STATE");
        TWO.run("Promise 26, swaps: 1 DAY, one below", "swaps(0, 0) = BAD", "swaps(-1, 0) = BAD", "swaps(MIN, 1) = BAD",
            "swaps(1, 0) = 0");
        TWO.run("Promise 26, swaps: 60 DAYS, one above", "swaps(60, 0) = 0", "swaps(61, 0) = BAD",
            "swaps(MAX, 1) = BAD");
        TWO.run("Promise 26, swaps: what, 0 and 1", "swaps(1, -1) = BAD", "swaps(1, 0) = 0", "swaps(1, 1) = NONE",
            "swaps(1, 2) = BAD", "swaps(1, MIN) = BAD", "swaps(1, MAX) = BAD");
        ONE.run("Promise 26, swaps: one alone has no pair", "swaps(1, 0) = 0", "swaps(1, 1) = NONE");
    }

    private static void swapsPairs() {
        new Script(C, "tell l0,1;c0,0;c0,0;n1,0,0;n1,0,0;n1,0,0;n1,0,0;s5,0,0;n1,1,0; = 6", "quarrel(3, 4, 1)",
            "quarrel(4, 5, 1)").run("Promise 26, swaps: the last pair alone", "swaps(1, 0) = 1", "swaps(1, 1) = 45");
        new Script(C, "tell l0,1;c0,0;c0,0;s5,0,0;n1,1,0;n1,0,0; = 3", "quarrel(0, 2, 1)", "quarrel(0, 1, 1)").run(
            "Promise 26, swaps: the first pair alone", "swaps(1, 0) = 1", "swaps(1, 1) = 1", "swaps(60, 1) = 1");
        new Script(C, "tell l0,1;c0,0;c0,0;s5,0,0;s4,1,0; = 2").run("Promise 26, swaps: no CHILD is less FED",
            "swaps(1, 0) = 0", "swaps(1, 1) = NONE");
        new Script(C,
            "tell l0,1;c0,0;c0,0;s5,0,0;s5,1,0;n1,0,0;n2,1,0; = 4")
            .run("Promise 26, swaps: as FED as ahead is not enough",
            "swaps(1, 0) = 0", "swaps(1, 1) = NONE");
        new Script(C, "tell l0,1;c0,0;c60,0;o9,1,0;o9,1,0;s9,1,0;s2,0,0; = 4").run(
            "Promise 26, swaps: one more, the other at 98, no more at 99", "swaps(1, 0) = 0", "swaps(1, 1) = NONE",
            "swaps(2, 0) = 3", "swaps(2, 1) = 3");
        new Script(C, "tell l0,1;c0,0;c60,0;o9,1,0;o9,1,0;s9,1,0;s3,0,0; = 4").run(
            "Promise 26, swaps: one more, the other at 99 both ways", "swaps(1, 0) = 1", "swaps(1, 1) = 23",
            "swaps(2, 0) = 3", "swaps(2, 1) = 3");
        new Script(C, "tell l0,1;c0,0;c0,0;c0,0;c0,0;c60,0;o9,4,0;o9,4,0;o9,4,0;s1,3,0;s1,3,0;s1,3,0; = 6").run(
            "Promise 26, swaps: six, five CHILDREN", "swaps(1, 0) = 0", "swaps(2, 0) = 9", "swaps(2, 1) = 3",
            "swaps(32, 0) = 9", "swaps(33, 0) = 0");
        new Script(C, "tell l0,1;c0,0;c0,0;s5,0,0;s4,1,0; = 2").run("Promise 26, swaps: in n DAYS, sick ones of them",
            "sick(0, 1) = 0", "sick(1, 1) = 0", "swaps(1, 0) = 0", "swaps(1, 1) = NONE");
    }

    private static void soon() {
        TOWN.run("Promise 27, soon: the first CHILD and the last", "soon(-1, 0) = BAD", "soon(0, 0) = 2",
            "soon(0, 1) = 4", "soon(2, 0) = 0", "soon(2, 1) = 4", "soon(3, 0) = BAD", "soon(MIN, 0) = BAD",
            "soon(MAX, 1) = BAD");
        TOWN.run("Promise 27, soon: what, 0 and 1", "soon(0, -1) = BAD", "soon(0, 2) = BAD", "soon(0, MIN) = BAD",
            "soon(0, MAX) = BAD");
        Script teller = new Script(C, "tell l0,1;c0,0;c0,0;s1,0,0;t1,0,0; = 2");
        teller.run("Promise 27, soon: 60 at most, NONE", "sick(1, 58) = 0", "soon(1, 1) = 59", "sick(1, 59) = 58",
            "soon(1, 0) = 1", "soon(1, 1) = 60", "sick(1, 60) = 59", "soon(1, 0) = NONE", "soon(1, 1) = NONE");
        teller.run("Promise 27, soon: it has heard the WHOLE now", "days(1) = 1", "soon(0, 0) = 0", "soon(0, 1) = 0",
            "soon(1, 0) = 1", "soon(1, 1) = 1");
        teller.run("Promise 27, soon: of several the first", "soon(0, 0) = 0", "soon(0, 1) = 1", "soon(1, 0) = 1");
        new Script(C, "tell l0,1;c0,0;c0,0;t1,0,0;t1,0,0; = 2").run("Promise 27, soon: of several tellers the first",
            "soon(1, 0) = 0", "soon(1, 1) = 1", "sick(0, 1) = 0", "soon(1, 0) = 1", "soon(1, 1) = 1", "sick(1, 1) = 0",
            "soon(1, 0) = 0", "soon(1, 1) = 2");
        new Script(C, "tell l0,1;c0,0;c0,0;c0,0;t1,2,1; = 1", "sick(0, 1) = 0").run(
            "Promise 27, soon: were her FIRST it, though as it is would be sooner", "whole(0) = 2", "soon(0, 0) = 0",
            "soon(0, 1) = 4");
        MOST.run("Promise 27, soon: the last of six, the last of five CHILDREN", "soon(4, 0) = 5", "soon(4, 1) = 1",
            "soon(0, 0) = 0", "soon(0, 1) = 1", "sick(5, 60) = 0", "soon(4, 0) = NONE", "soon(5, 0) = BAD");
        ONE.run("Promise 27, soon: NONE: nobody tells", "soon(0, 0) = NONE", "soon(0, 1) = NONE");
        NEW.run("Promise 27, soon: BAD without a TOWN", "soon(0, 0) = BAD");
    }

    private static void even() {
        NEW.run("Promise 31, even: STATE: no TOWN, ahead of BAD", "even(0) = STATE", "even(-1) = STATE",
            "even(61) = STATE", "even(MIN) = STATE", "even(MAX) = STATE");
        TOWN.run("Promise 31, even: 0 DAYS are now, one below", "even(0) = 30", "even(-1) = BAD", "even(MIN) = BAD",
            "even(1) = 22");
        Script apart = new Script(C, "tell l0,1;c60,0;c0,0;c9,0;o9,0,0; = 1");
        apart.run("Promise 31, even: 60 DAYS, one above", "even(60) = 99", "even(61) = BAD", "even(MAX) = BAD");
        apart.run("Promise 31, even: the last of 60 DAYS", "sick(0, 59) = 0", "even(59) = 60", "even(60) = 78",
            "sick(0, 60) = 59", "even(60) = 60");
        ONE.run("Promise 31, even: one CHILD alone", "even(0) = 0", "even(60) = 0");
        new Script(C, "tell l0,1;c7,0;c7,0;n1,0,0; = 1").run("Promise 31, even: all as FED", "even(0) = 0",
            "even(60) = 0");
        new Script(C,
            "tell l0,1;c7,0;c7,0;c7,0;c7,0;c9,0;n1,0,0; = 1").run("Promise 31, even: the last is the most FED",
            "even(0) = 2");
        new Script(C,
            "tell l0,1;c7,0;c7,0;c7,0;c7,0;c4,0;n1,0,0; = 1").run("Promise 31, even: the last is the least FED",
            "even(0) = 3");
    }

    private static void feverNumbers() {
        TOWN.run("Promise 32, fever: the first CHILD and the last", "fever(-1, 5, 0) = BAD", "fever(0, 5, 0) = 3",
            "fever(0, 5, 1) = 4", "fever(2, 5, 0) = 1", "fever(2, 5, 1) = 2", "fever(3, 5, 0) = BAD",
            "fever(MIN, 5, 1) = BAD", "fever(MAX, 5, 1) = BAD");
        ONE.run("Promise 32, fever: 0 of 10, one below", "fever(0, 0, 0) = 1", "fever(0, 0, 1) = 1",
            "fever(0, -1, 0) = BAD", "fever(0, -1, 1) = BAD", "fever(0, MIN, 0) = BAD");
        ONE.run("Promise 32, fever: 10 of 10, one above; 0 is 0 by 1", "fever(0, 10, 0) = 0", "fever(0, 10, 1) = 1",
            "fever(0, 11, 0) = BAD", "fever(0, 11, 1) = BAD", "fever(0, MAX, 0) = BAD");
        ONE.run("Promise 32, fever: what, 0 and 1", "fever(0, 1, -1) = BAD", "fever(0, 1, 0) = 9",
            "fever(0, 1, 1) = 10", "fever(0, 1, 2) = BAD", "fever(0, 1, MIN) = BAD", "fever(0, 1, MAX) = BAD");
        NEW.run("Promise 32, fever: BAD without a TOWN", "fever(0, 0, 0) = BAD", "fever(0, 0, 1) = BAD");
    }

    private static void feverFractions() {
        ONE.run("Promise 32, fever: in lowest terms", "fever(0, 9, 0) = 1", "fever(0, 9, 1) = 10", "fever(0, 8, 0) = 1",
            "fever(0, 8, 1) = 5", "fever(0, 5, 0) = 1", "fever(0, 5, 1) = 2", "fever(0, 2, 0) = 4",
            "fever(0, 2, 1) = 5");
        SIX.run("Promise 32, fever: six, the greatest numbers", "fever(0, 9, 0) = 468559", "fever(0, 9, 1) = 1000000",
            "fever(0, 1, 0) = 999999", "fever(0, 1, 1) = 1000000", "fever(0, 5, 0) = 63", "fever(0, 5, 1) = 64");
        TWO.run("Promise 32, fever: nobody is WITH it: 0 by 1", "fever(1, 0, 0) = 0", "fever(1, 0, 1) = 1",
            "fever(1, 10, 0) = 0", "fever(1, 10, 1) = 1", "fever(2, 5, 1) = 1");
        TWO.run("Promise 32, fever: two who QUARREL, one of them must be sick", "quarrel(0, 1, 1) = 2",
            "fever(0, 0, 0) = 0", "fever(0, 0, 1) = 1", "fever(0, 10, 0) = 0", "fever(0, 10, 1) = 1",
            "fever(0, 5, 0) = 1", "fever(0, 5, 1) = 2", "fever(0, 1, 0) = 9", "fever(0, 1, 1) = 50");
        TWO.run("Promise 32, fever: who is sick stays so", "sick(0, 1) = 0", "fever(0, 5, 0) = 1", "fever(0, 5, 1) = 2",
            "quarrel(0, 1, 1) = 2", "fever(0, 0, 0) = 1", "fever(0, 0, 1) = 1", "sick(1, 60) = 0", "fever(0, 0, 0) = 0",
            "fever(0, 0, 1) = 1");
        SIX.run("Promise 32, fever: all QUARREL but one", "quarrel(0, 1, 1) = 2", "quarrel(0, 2, 1) = 6",
            "quarrel(0, 3, 1) = 14", "quarrel(0, 4, 1) = 30", "fever(0, 0, 0) = 1", "fever(0, 0, 1) = 1",
            "sick(5, 1) = 0", "fever(0, 0, 0) = 0", "fever(0, 0, 1) = 1", "fever(0, 5, 0) = 1", "fever(0, 5, 1) = 2");
        TWO.run("Promise 32, fever: on this DAY", "pace(0, 1) = 0", "days(1) = 1", "fever(0, 5, 1) = 2",
            "fever(1, 5, 1) = 2", "fever(2, 5, 1) = 1");
    }

    private static void drawnNumbers() {
        NEW.run("Promise 33, drawn: STATE: no TOWN, ahead of BAD", "drawn(0, 1, 0) = STATE", "drawn(-1, 1, 0) = STATE",
            "drawn(61, 1, 0) = STATE", "drawn(0, 0, 0) = STATE", "drawn(0, 1000000, 0) = STATE",
            "drawn(0, 1, 2) = STATE", "drawn(MIN, MAX, -1) = STATE");
        TOWN.run("Promise 33, drawn: 0 DAYS, one below", "drawn(0, 1, 0) = 40", "drawn(0, 1, 1) = 24",
            "drawn(-1, 1, 0) = BAD", "drawn(MIN, 1, 0) = BAD");
        ONE.run("Promise 33, drawn: 60 DAYS, one above", "drawn(59, 1, 0) = 35", "drawn(60, 1, 0) = 36",
            "drawn(61, 1, 0) = BAD", "drawn(MAX, 1, 0) = BAD");
        ONE.run("Promise 33, drawn: SEED 1, one below", "drawn(1, 1, 0) = 1", "drawn(1, 0, 0) = BAD",
            "drawn(1, -1, 0) = BAD", "drawn(1, MIN, 0) = BAD");
        ONE.run("Promise 33, drawn: SEED 999999, one above", "drawn(1, 999999, 0) = 0", "drawn(4, 999999, 0) = 1",
            "drawn(60, 999999, 0) = 32", "drawn(1, 1000000, 0) = BAD", "drawn(1, MAX, 0) = BAD");
        new Script(C, "tell l0,1;c0,0;o1,0,0; = 1").run("Promise 33, drawn: what, 0 and 1", "drawn(1, 1, -1) = BAD",
            "drawn(1, 1, 0) = 2", "drawn(1, 1, 1) = 1", "drawn(1, 1, 2) = BAD", "drawn(60, 1, 0) = 72",
            "drawn(60, 1, 1) = 20", "drawn(1, 1, MIN) = BAD", "drawn(1, 1, MAX) = BAD");
    }

    private static void drawnSickness() {
        ONE.run("Promise 33, drawn: X by 4 leaves 0, ahead of the DAY", "drawn(1, 1, 0) = 1", "drawn(1, 2, 0) = 1",
            "drawn(1, 3, 0) = 1", "drawn(1, 4, 0) = 0", "drawn(1, 5, 0) = 1", "drawn(1, 8, 0) = 0",
            "drawn(1, 16, 0) = 0");
        ONE.run("Promise 33, drawn: sick for 0 DAYS, in place of how she is", "drawn(1, 20, 0) = 1",
            "drawn(1, 40, 0) = 1", "sick(0, 9) = 0", "drawn(1, 1, 0) = 0", "drawn(1, 20, 0) = 1",
            "drawn(1, 40, 0) = 1");
        ONE.run("Promise 33, drawn: fewer DAYS in place of more", "sick(0, 60) = 0", "drawn(2, 4, 0) = 0",
            "drawn(3, 4, 0) = 1", "drawn(4, 4, 0) = 2", "drawn(12, 4, 0) = 8", "gran(0, 3) = 60");
        new Script(C,
            "tell l0,1;c0,0;c0,0;s1,0,0;s3,1,0; = 2").run("Promise 33, drawn: the GRANDMOTHER by how many there are",
            "drawn(1, 1, 0) = 4", "drawn(1, 4, 0) = 3", "drawn(1, 20, 0) = 4");
        new Script(C, "tell l0,1;c0,0;s1,0,0;s2,0,0;s4,0,0; = 3").run("Promise 33, drawn: the GRANDMOTHER, of three",
            "drawn(1, 4, 0) = 5", "drawn(1, 8, 0) = 3", "drawn(1, 12, 0) = 6", "drawn(1, 1, 0) = 7");
        new Script(C, "tell l1,1;c1,0;c0,0;c9,3;n1,0,0; = 1").run("Promise 33, drawn: of all, each cut at 0",
            "drawn(1, 1, 0) = 8", "drawn(60, 1, 0) = 0", "drawn(60, 1, 1) = 3");
    }
}
