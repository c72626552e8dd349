/**
 * Promises 1 to 6 at their edges, a method for each sentence of the document that names one: the
 * number just inside and just outside, nothing there yet, full, refused.
 */
public final class EdgesOfTellingTest implements Codes {
    private static final int[] FIRST = {4, 100, 200, 20, 32};
    private static final int[] LEAST = {1, 8, 8, 1, 0};
    private static final int[] GREATEST = {8, 250, 250, 60, 64};

    public static void main(String[] args) {
        newObject();
        objectsApart();
        nothingToName();
        kindOfModule();
        twelveModules();
        moduleOfARoutine();
        localsOfARoutine();
        thirtyRoutines();
        routineWithoutOps();
        routineOfAnOp();
        codeOfAnOp();
        numberOfSetAndAdd();
        numberNotLookedAt();
        numberOfLoadAndStore();
        numberOfCall();
        numberOfIfAndGoto();
        fortyOps();
        dropsTheLast();
        dropOfNone();
        dropRefused();
        firstLimits();
        rangesOfLimits();
        whichLimit();
        badBeforeFull();
        refusedChangesNothing();
        changeTakesImage();
        refusedKeepsImage();
        dropOfNoneKeepsImage();
        changeKeepsRunsAndFault();
        Due.finish();
    }

    private static void newObject() {
        Due.sentence("No MODULES, no ROUTINES, no IMAGE");
        Counted x = new Counted();
        for (int what = 0; what < 3; what++) Due.due("count(" + what + ")", x.count(what), 0);
        for (int what = 3; what < 8; what++) Due.due("count(" + what + ")", x.count(what), STATE);
        for (int b = NONE; b < 4; b++) Due.due("image(" + b + ", 0)", x.image(b, 0), STATE);
        Due.due("module(0)", new Counted().module(0), 0);
        Due.due("module(1)", new Counted().module(1), 0);
    }

    private static void objectsApart() {
        Due.sentence("A new object (beside one that is in use)");
        Counted used = Samples.chain();
        used.link();
        used.run(1, 2, 3000);
        used.flat(1, 2, 3000);
        Counted x = new Counted();
        for (int what = 0; what < 3; what++) Due.due("count(" + what + ")", x.count(what), 0);
        Due.due("count(3)", x.count(3), STATE);
        for (int which = 0; which < 2; which++) {
            Samples.dueTold("new", x, which, 0, 0, 0, 0, 0);
            Samples.dueOut("new", x, which);
        }
        Due.due("SIZE", x.limit(SIZE, 9), 100);
        x.module(0);
        x.routine(0, 0);
        x.op(0, GOTO, 9);
        Due.due("link()", x.link(), 0);
        Due.due("the other one's FAULT", used.fault(0), 0);
        Due.due("the other one's IMAGE", used.count(3), 50);
        Samples.dueBytes("the other one's bytes", used, 1, 1, 1, 5, 17, 0, 2, 8);
        Samples.dueTold("the other one's run", used, 0, 78, 0, 6, 10, 12);
        Due.due("the other one's SIZE", used.limit(SIZE, 8), 16);
    }

    private static void nothingToName() {
        Due.sentence("there is no such thing");
        Counted x = new Counted();
        Due.due("routine(0, 0)", x.routine(0, 0), BAD);
        Due.due("op(0, 2, 0)", x.op(0, TELL, 0), BAD);
        Due.due("drop(0)", x.drop(0), BAD);
        Due.due("place(0, 0)", x.place(0, 0), BAD);
        Due.due("leads(0, 0)", x.leads(0, 0), BAD);
        Due.due("run(0, 0, 1)", x.run(0, 0, 1), BAD);
        Due.due("flat(0, 0, 1)", x.flat(0, 0, 1), BAD);
        Due.due("link()", x.link(), 1);
        Due.due("place(0, 0), linked", x.place(0, 0), BAD);
        Due.due("run(0, 0, 1), linked", x.run(0, 0, 1), BAD);
        Due.due("count(0)", x.count(0), 0);
        Due.due("count(1)", x.count(1), 0);
    }

    private static void kindOfModule() {
        Due.sentence("of KIND 0 (for COMMON) or 1 (for a BANK)");
        Counted x = new Counted();
        Due.due("module(-1)", x.module(-1), BAD);
        Due.due("module(2)", x.module(2), BAD);
        for (int wild : WILD) Due.due("module(" + wild + ")", x.module(wild), BAD);
        Due.due("module(0)", x.module(0), 0);
        Due.due("module(1)", x.module(1), 1);
        x.routine(0, 0);
        x.routine(1, 0);
        Due.due("link()", x.link(), 1);
        Due.due("KIND 0 is in COMMON", x.place(0, 0), NONE);
        Due.due("KIND 1 is in a BANK", x.place(1, 0), 0);
    }

    private static void twelveModules() {
        Due.sentence("MODULES, 12 at most");
        for (int kind = 0; kind < 2; kind++) {
            Counted x = new Counted();
            for (int m = 0; m < 12; m++) Due.due("module " + m, x.module(kind), m);
            Due.due("module 12", x.module(kind), FULL);
            Due.due("module 12 of the other KIND", x.module(1 - kind), FULL);
            Due.due("count(0)", x.count(0), 12);
            Due.due("a ROUTINE of the last", x.routine(11, 0), 0);
            Due.due("a ROUTINE of one more", x.routine(12, 0), BAD);
        }
    }

    private static void moduleOfARoutine() {
        Due.sentence("BAD: the MODULE");
        Counted x = new Counted();
        x.module(0);
        x.module(1);
        Due.due("routine(-1, 0)", x.routine(-1, 0), BAD);
        Due.due("routine(2, 0)", x.routine(2, 0), BAD);
        for (int wild : WILD) Due.due("routine(" + wild + ", 0)", x.routine(wild, 0), BAD);
        Due.due("routine(0, 0)", x.routine(0, 0), 0);
        Due.due("routine(1, 0)", x.routine(1, 0), 1);
        x.module(0);
        Due.due("routine(2, 0), now that it is there", x.routine(2, 0), 2);
    }

    private static void localsOfARoutine() {
        Due.sentence("LOCALS (0 .. 9)");
        Counted x = new Counted();
        x.module(0);
        Due.due("routine(0, -1)", x.routine(0, -1), BAD);
        Due.due("routine(0, 10)", x.routine(0, 10), BAD);
        for (int wild : WILD) Due.due("routine(0, " + wild + ")", x.routine(0, wild), BAD);
        Due.due("count(1)", x.count(1), 0);
        Due.due("routine(0, 0)", x.routine(0, 0), 0);
        Due.due("routine(0, 9)", x.routine(0, 9), 1);
        Due.due("link()", x.link(), 1);
        Due.due("cells of 9 LOCALS", x.count(6), 9);
    }

    private static void thirtyRoutines() {
        Due.sentence("ROUTINES, 30 at most");
        for (int modules = 1; modules <= 12; modules += 11) {
            Counted x = new Counted();
            for (int m = 0; m < modules; m++) x.module(1);
            for (int r = 0; r < 30; r++) Due.due("routine " + r, x.routine(r % modules, 0), r);
            for (int m = 0; m < modules; m++) Due.due("routine 30 of " + m, x.routine(m, 9), FULL);
            Due.due("count(1)", x.count(1), 30);
            Due.due("op of the last", x.op(29, TELL, 0), 1);
            Due.due("op of one more", x.op(30, TELL, 0), BAD);
            Due.due("flat of the last", x.flat(29, 4, 2), 1);
            Due.due("flat of one more", x.flat(30, 4, 2), BAD);
        }
    }

    private static void routineWithoutOps() {
        Due.sentence("A ROUTINE of a MODULE, without OPS");
        Counted x = Samples.single(0, 0);
        x.op(0, SET, 7);
        x.routine(0, 0);
        Due.due("drop(1)", x.drop(1), NONE);
        Due.due("count(2)", x.count(2), 1);
        Due.due("flat(1, 5, 1)", x.flat(1, 5, 1), 1);
        Due.due("A at its end", x.told(1, 1), 5);
        Due.due("link()", x.link(), 1);
        Due.due("its bytes", x.place(1, 5), 1);
    }

    private static void routineOfAnOp() {
        Due.sentence("BAD: the ROUTINE, the OP (0 .. 8)");
        Counted x = Samples.single(0, 0);
        x.routine(0, 0);
        Due.due("op(-1, 2, 0)", x.op(-1, TELL, 0), BAD);
        Due.due("op(2, 2, 0)", x.op(2, TELL, 0), BAD);
        for (int wild : WILD) Due.due("op(" + wild + ", 2, 0)", x.op(wild, TELL, 0), BAD);
        Due.due("op(0, 2, 0)", x.op(0, TELL, 0), 1);
        Due.due("op(1, 2, 0)", x.op(1, TELL, 0), 1);
        Due.due("count(2)", x.count(2), 2);
    }

    private static void codeOfAnOp() {
        Due.sentence("the OP (0 .. 8)");
        Counted x = Samples.single(0, 1);
        Due.due("op(0, -1, 0)", x.op(0, -1, 0), BAD);
        Due.due("op(0, 9, 0)", x.op(0, 9, 0), BAD);
        Due.due("op(0, 12, 0), a code of the machine alone", x.op(0, 12, 0), BAD);
        for (int wild : WILD) Due.due("op(0, " + wild + ", 0)", x.op(0, wild, 0), BAD);
        for (int code = 0; code <= 8; code++) Due.due("op(0, " + code + ", 0)", x.op(0, code, 0), code + 1);
        Due.due("count(2)", x.count(2), 9);
    }

    private static void numberOfSetAndAdd() {
        Due.sentence("SET v (0 .. 255), ADD v (0 .. 255)");
        for (int code = SET; code <= ADD; code++) {
            Counted x = Samples.single(0, 0);
            Due.due(code + ": -1", x.op(0, code, -1), BAD);
            Due.due(code + ": 256", x.op(0, code, 256), BAD);
            for (int wild : WILD) Due.due(code + ": " + wild, x.op(0, code, wild), BAD);
            Due.due(code + ": 0", x.op(0, code, 0), 1);
            Due.due(code + ": 255", x.op(0, code, 255), 2);
        }
    }

    private static void numberNotLookedAt() {
        Due.sentence("each with a number v (of some it is not looked at)");
        Counted x = Samples.single(0, 0);
        int now = 0;
        for (int wild : WILD) {
            Due.due("TELL " + wild, x.op(0, TELL, wild), ++now);
            Due.due("BACK " + wild, x.op(0, BACK, wild), ++now);
        }
        Due.due("TELL -1", x.op(0, TELL, -1), ++now);
        Due.due("BACK 41", x.op(0, BACK, 41), ++now);
        Due.due("link()", x.link(), 1);
        Due.due("one byte each, and the last BACK", x.place(0, 5), now + 1);
    }

    private static void numberOfLoadAndStore() {
        Due.sentence("v (of LOAD, STORE a LOCAL)");
        for (int code = LOAD; code <= STORE; code++) {
            Counted x = Samples.single(0, 0);
            x.routine(0, 1);
            x.routine(0, 9);
            Due.due(code + ": none of 0", x.op(0, code, 0), BAD);
            Due.due(code + ": 0 of 1", x.op(1, code, 0), 1);
            Due.due(code + ": 1 of 1", x.op(1, code, 1), BAD);
            Due.due(code + ": -1 of 1", x.op(1, code, -1), BAD);
            Due.due(code + ": 0 of 9", x.op(2, code, 0), 1);
            Due.due(code + ": 8 of 9", x.op(2, code, 8), 2);
            Due.due(code + ": 9 of 9", x.op(2, code, 9), BAD);
            Due.due(code + ": -1 of 9", x.op(2, code, -1), BAD);
            for (int wild : WILD) Due.due(code + ": " + wild, x.op(2, code, wild), BAD);
        }
    }

    private static void numberOfCall() {
        Due.sentence("CALL ROUTINE v (one that is there)");
        Counted x = Samples.single(0, 0);
        Due.due("-1", x.op(0, CALL, -1), BAD);
        Due.due("1, not there yet", x.op(0, CALL, 1), BAD);
        for (int wild : WILD) Due.due("" + wild, x.op(0, CALL, wild), BAD);
        Due.due("itself", x.op(0, CALL, 0), 1);
        for (int r = 1; r < 30; r++) x.routine(0, 0);
        Due.due("1, now that it is there", x.op(0, CALL, 1), 2);
        Due.due("29", x.op(0, CALL, 29), 3);
        Due.due("30", x.op(0, CALL, 30), BAD);
    }

    private static void numberOfIfAndGoto() {
        Due.sentence("IF v (0 .. 40), GOTO v (0 .. 40)");
        for (int code = IF; code <= GOTO; code++) {
            Counted x = Samples.single(0, 0);
            Due.due(code + ": -1", x.op(0, code, -1), BAD);
            Due.due(code + ": 41", x.op(0, code, 41), BAD);
            for (int wild : WILD) Due.due(code + ": " + wild, x.op(0, code, wild), BAD);
            Due.due(code + ": 40, as the first OP", x.op(0, code, 40), 1);
            Due.due(code + ": 0", x.op(0, code, 0), 2);
        }
    }

    private static void fortyOps() {
        Due.sentence("a row of OPS, 40 at most");
        for (int code = 0; code <= 8; code++) {
            Counted x = Samples.single(0, 1);
            x.routine(0, 1);
            for (int i = 1; i <= 40; i++) Due.due("OP " + i + " of code " + code, x.op(0, code, 0), i);
            Due.due("one more", x.op(0, code, 0), FULL);
            Due.due("one more", x.op(0, TELL, 0), FULL);
            Due.due("the other ROUTINE has room", x.op(1, code, 0), 1);
            Due.due("count(2)", x.count(2), 41);
            Due.due("drop", x.drop(0), 39);
            Due.due("room again", x.op(0, TELL, 0), 40);
            Due.due("no room again", x.op(0, TELL, 0), FULL);
        }
    }

    private static void dropsTheLast() {
        Due.sentence("The last OP of a ROUTINE goes: how many it has");
        Counted x = Samples.single(0, 0);
        x.routine(0, 0);
        Samples.ops(x, 0, SET, 1, SET, 2, SET, 3);
        Samples.ops(x, 1, SET, 9);
        for (int left = 2; left >= 0; left--) {
            Due.due("drop(0)", x.drop(0), left);
            Due.due("count(2)", x.count(2), left + 1);
            x.flat(0, 0, 9);
            Due.due("A of those that are left", x.told(1, 1), left);
        }
        x.flat(1, 0, 9);
        Due.due("the other ROUTINE keeps its OP", x.told(1, 1), 9);
        Due.due("behind a drop the next comes first", x.op(0, SET, 5), 1);
        x.flat(0, 0, 9);
        Due.due("and no older one is behind it", x.told(1, 0), 2);
    }

    private static void dropOfNone() {
        Due.sentence("NONE: there was none");
        Counted x = Samples.single(1, 9);
        Due.due("drop(0) of a new ROUTINE", x.drop(0), NONE);
        x.op(0, TELL, 0);
        Due.due("drop(0)", x.drop(0), 0);
        Due.due("drop(0) of none", x.drop(0), NONE);
        Due.due("drop(0) of none again", x.drop(0), NONE);
        Due.due("the first OP is the first again", x.op(0, TELL, 0), 1);
    }

    private static void dropRefused() {
        Due.sentence("drop: BAD");
        Counted x = Samples.single(1, 0);
        x.op(0, TELL, 0);
        Due.due("drop(-1)", x.drop(-1), BAD);
        Due.due("drop(1)", x.drop(1), BAD);
        for (int wild : WILD) Due.due("drop(" + wild + ")", x.drop(wild), BAD);
        Due.due("count(2)", x.count(2), 1);
    }

    private static void firstLimits() {
        Due.sentence("BANKS (at first 4), SIZE (at first 100), COMMON (200), STACK (20), CELLS (32)");
        for (int what = 0; what < 5; what++) {
            Counted x = new Counted();
            Due.due("limit(" + what + ", its least)", x.limit(what, LEAST[what]), FIRST[what]);
        }
        for (int what = 0; what < 5; what++) {
            Counted x = new Counted();
            Due.due("limit(" + what + ", its greatest)", x.limit(what, GREATEST[what]), FIRST[what]);
            for (int k = 0; k < 5; k++) {
                if (k != what) Due.due("limit " + k + " is its own", x.limit(k, 8), FIRST[k]);
            }
        }
    }

    private static void rangesOfLimits() {
        Due.sentence("BANKS 1 to 8, SIZE 8 to 250, COMMON 8 to 250, STACK 1 to 60, CELLS 0 to 64");
        for (int what = 0; what < 5; what++) {
            Counted x = new Counted();
            Due.due(what + ": below the least", x.limit(what, LEAST[what] - 1), BAD);
            Due.due(what + ": above the greatest", x.limit(what, GREATEST[what] + 1), BAD);
            for (int wild : WILD) Due.due(what + ": " + wild, x.limit(what, wild), BAD);
            Due.due(what + ": the least", x.limit(what, LEAST[what]), FIRST[what]);
            Due.due(what + ": below the least", x.limit(what, LEAST[what] - 1), BAD);
            Due.due(what + ": the greatest", x.limit(what, GREATEST[what]), LEAST[what]);
            Due.due(what + ": above the greatest", x.limit(what, GREATEST[what] + 1), BAD);
            Due.due(what + ": what it was", x.limit(what, LEAST[what]), GREATEST[what]);
        }
    }

    private static void whichLimit() {
        Due.sentence("A LIMIT: 0 BANKS, 1 SIZE, 2 COMMON, 3 STACK, 4 CELLS: what it was. BAD");
        Counted x = new Counted();
        Due.due("limit(-1, 8)", x.limit(-1, 8), BAD);
        Due.due("limit(5, 8)", x.limit(5, 8), BAD);
        for (int wild : WILD) Due.due("limit(" + wild + ", 8)", x.limit(wild, 8), BAD);
        for (int what = 0; what < 5; what++) Due.due("limit " + what, x.limit(what, 8), FIRST[what]);
    }

    private static void badBeforeFull() {
        Due.sentence("the first of these that fits: BAD .., STATE .., FULL (telling)");
        Counted x = new Counted();
        for (int m = 0; m < 12; m++) x.module(0);
        for (int r = 0; r < 30; r++) x.routine(0, 1);
        for (int i = 0; i < 40; i++) x.op(0, TELL, 0);
        Due.due("module(2)", x.module(2), BAD);
        Due.due("module(-1)", x.module(-1), BAD);
        Due.due("routine(12, 0)", x.routine(12, 0), BAD);
        Due.due("routine(-1, 0)", x.routine(-1, 0), BAD);
        Due.due("routine(0, 10)", x.routine(0, 10), BAD);
        Due.due("routine(0, -1)", x.routine(0, -1), BAD);
        Due.due("op(0, 9, 0)", x.op(0, 9, 0), BAD);
        Due.due("op(0, SET, 256)", x.op(0, SET, 256), BAD);
        Due.due("op(0, ADD, -1)", x.op(0, ADD, -1), BAD);
        Due.due("op(0, LOAD, 1)", x.op(0, LOAD, 1), BAD);
        Due.due("op(0, STORE, 1)", x.op(0, STORE, 1), BAD);
        Due.due("op(0, CALL, 30)", x.op(0, CALL, 30), BAD);
        Due.due("op(0, IF, 41)", x.op(0, IF, 41), BAD);
        Due.due("op(0, GOTO, 41)", x.op(0, GOTO, 41), BAD);
    }

    /** Refuses by every change that can be refused. */
    private static void refuseAll(Counted x, int fullRoutine) {
        Due.due("module, BAD", x.module(2), BAD);
        Due.due("module, FULL", x.module(0), FULL);
        Due.due("module, FULL", x.module(1), FULL);
        Due.due("routine, the MODULE", x.routine(12, 0), BAD);
        Due.due("routine, the LOCALS", x.routine(0, 10), BAD);
        Due.due("routine, FULL", x.routine(0, 9), FULL);
        Due.due("op, the ROUTINE", x.op(30, TELL, 0), BAD);
        Due.due("op, the OP", x.op(1, 9, 0), BAD);
        Due.due("op, v of SET", x.op(1, SET, 256), BAD);
        Due.due("op, v of LOAD", x.op(1, LOAD, 9), BAD);
        Due.due("op, v of CALL", x.op(1, CALL, 30), BAD);
        Due.due("op, v of GOTO", x.op(1, GOTO, 41), BAD);
        Due.due("op, FULL", x.op(fullRoutine, SET, 77), FULL);
        Due.due("drop", x.drop(30), BAD);
        Due.due("drop", x.drop(-1), BAD);
        for (int what = 0; what < 5; what++) {
            Due.due("limit, v", x.limit(what, LEAST[what] - 1), BAD);
            Due.due("limit, v", x.limit(what, GREATEST[what] + 1), BAD);
        }
        Due.due("limit, what", x.limit(5, 8), BAD);
        Due.due("limit, what", x.limit(-1, 8), BAD);
    }

    /** All is full: 12 MODULES, 30 ROUTINES, 40 OPS of routine 2; run and flat tell 1, 2 .. */
    private static Counted fullOfAll() {
        Counted x = new Counted();
        for (int m = 0; m < 12; m++) x.module(m % 2);
        for (int r = 0; r < 30; r++) x.routine(r % 12, r % 3);
        Samples.ops(x, 1, ADD, 3, TELL, 0);
        for (int i = 0; i < 40; i++) x.op(2, TELL, 0);
        return x;
    }

    private static void refusedChangesNothing() {
        Due.sentence("What is refused changes nothing");
        Counted x = fullOfAll();
        refuseAll(x, 2);
        Due.due("count(0)", x.count(0), 12);
        Due.due("count(1)", x.count(1), 30);
        Due.due("count(2)", x.count(2), 42);
        Due.due("flat(1, 4, 9)", x.flat(1, 4, 9), 1);
        Samples.dueTold("the OPS of 1", x, 1, 3, 7, 1, 0, 0);
        Due.due("flat(2, 4, 99)", x.flat(2, 4, 99), 1);
        Samples.dueTold("the OPS of 2", x, 1, 41, 4, 40, 0, 0);
        for (int what = 0; what < 5; what++) Due.due("limit " + what, x.limit(what, 8), FIRST[what]);
    }

    private static void changeTakesImage() {
        Due.sentence("by each of these that is not refused the IMAGE is gone");
        for (int change = 0; change < 10; change++) {
            Counted x = Samples.chain();
            x.routine(0, 0);
            x.limit(SIZE, 17);
            Due.due("link()", x.link(), 1);
            Due.due("place(0, 1)", x.place(0, 1), 256);
            if (change == 0) Due.due("module(0)", x.module(0), 3);
            if (change == 1) Due.due("module(1)", x.module(1), 3);
            if (change == 2) Due.due("routine(2, 0)", x.routine(2, 0), 6);
            if (change == 3) Due.due("op(5, 2, 0)", x.op(5, TELL, 0), 1);
            if (change == 4) Due.due("drop(4)", x.drop(4), 1);
            if (change == 5) Due.due("limit(0, 5)", x.limit(BANKS, 5), 4);
            if (change == 6) Due.due("limit(1, 18)", x.limit(SIZE, 18), 17);
            if (change == 7) Due.due("limit(2, 201)", x.limit(COMMON, 201), 200);
            if (change == 8) Due.due("limit(3, 21)", x.limit(STACK, 21), 20);
            if (change == 9) Due.due("limit(4, 32), as before", x.limit(CELLS, 32), 32);
            Samples.dueNoImage("change " + change, x);
            Due.due("link()", x.link(), 1);
            Due.due("the IMAGE is back", x.place(0, 1), 256);
        }
    }

    private static void refusedKeepsImage() {
        Due.sentence("that is not refused");
        Counted x = fullOfAll();
        Due.due("link()", x.link(), 1);
        int common = x.count(3);
        int behind = x.place(29, 1);
        refuseAll(x, 2);
        Due.due("count(3)", x.count(3), common);
        Due.due("place(29, 1)", x.place(29, 1), behind);
        Due.due("image(-1, 0)", x.image(NONE, 0), 8);
        Due.due("run(1, 4, 9)", x.run(1, 4, 9), 1);
        Due.due("A at its end", x.told(0, 1), 7);
    }

    private static void dropOfNoneKeepsImage() {
        Due.sentence("NONE: there was none (the IMAGE stays)");
        Counted x = Samples.chain();
        x.routine(1, 2);
        Due.due("link()", x.link(), 1);
        Due.due("drop(5)", x.drop(5), NONE);
        Due.due("count(3)", x.count(3), 54);
        Due.due("place(5, 1)", x.place(5, 1), 26);
        Due.due("image(-1, 26)", x.image(NONE, 26), 12);
        Due.due("run(5, 1, 2)", x.run(5, 1, 2), 1);
    }

    private static void changeKeepsRunsAndFault() {
        Due.sentence("Of the latest run(), flat(), link()");
        Counted x = Samples.chain();
        x.link();
        x.run(1, 2, 3000);
        x.flat(1, 1, 3000);
        x.op(4, GOTO, 40);
        x.link();
        x.drop(4);
        x.module(0);
        x.limit(BANKS, 8);
        Samples.dueTold("run", x, 0, 78, 0, 6, 10, 12);
        Samples.dueTold("flat", x, 1, 23, 0, 3, 4, 0);
        Due.due("out(0, 5)", x.out(0, 5), 1);
        Due.due("out(1, 0)", x.out(1, 0), 2);
        Due.due("fault(0)", x.fault(0), 1);
        Due.due("fault(1)", x.fault(1), 4);
        Due.due("fault(2)", x.fault(2), 2);
    }
}
