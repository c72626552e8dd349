/** Promises 13 to 16 at their edges: run, flat, out, told. */
public final class EdgesOfRunsTest implements Codes {
    private static final int RUN = 0, FLAT = 1;

    public static void main(String[] args) {
        beforeAnyRun();
        runRefused();
        badBeforeState();
        refusedKeepsTheLatest();
        routineWithoutOps();
        stepsToTheLast();
        stepsOfAnEndlessRun();
        addModulo256();
        ifAIsNothingElse();
        jumpsOnAndBack();
        backInTheMiddle();
        fortyOpsAndTheLastBack();
        eachCodeIsAStep();
        localsAreZeroEachTime();
        localsStayOverACall();
        allCells();
        cellsAreZeroAtFirst();
        bankOfTheRoutine();
        bankOfCommon();
        bankIsTakenBack();
        emptyStack();
        greatestStack();
        flatWithoutImage();
        sixtyOneThatAreOn();
        sixtyOneAgainAndAgain();
        flatLeadsAstray();
        flatAstrayAtTheLastStep();
        flatWithAFault();
        flatOwnLocals();
        hundredNumbersKept();
        outRefused();
        outOfTheLatest();
        toldRefused();
        toldOfASpentRun();
        toldOfTheLatest();
        runAndFlatApart();
        Due.finish();
    }

    private static int go(Counted x, int which, int routine, int a, int n) {
        return which == RUN ? x.run(routine, a, n) : x.flat(routine, a, n);
    }

    /** One routine in COMMON, linked. */
    private static Counted linked(int locals, int... ops) {
        Counted x = Samples.single(0, locals);
        Samples.ops(x, 0, ops);
        Due.due("link()", x.link(), 1);
        return x;
    }

    private static void beforeAnyRun() {
        Due.sentence("All 0 before");
        Counted x = Samples.chain();
        for (int linked = 0; linked < 2; linked++) {
            for (int which = 0; which < 2; which++) {
                Samples.dueTold("before", x, which, 0, 0, 0, 0, 0);
                Due.due("out(" + which + ", 0)", x.out(which, 0), NONE);
                Due.due("out(" + which + ", 99)", x.out(which, 99), NONE);
            }
            x.link();
        }
    }

    private static void runRefused() {
        Due.sentence("from a ROUTINE with A (0 .. 255), of n (1 .. 3000) STEPS at most. BAD");
        for (int which = 0; which < 2; which++) {
            Counted x = linked(0, TELL, 0);
            Due.due("routine -1", go(x, which, -1, 0, 9), BAD);
            Due.due("routine 1", go(x, which, 1, 0, 9), BAD);
            Due.due("A -1", go(x, which, 0, -1, 9), BAD);
            Due.due("A 256", go(x, which, 0, 256, 9), BAD);
            Due.due("n 0", go(x, which, 0, 0, 0), BAD);
            Due.due("n -1", go(x, which, 0, 0, -1), BAD);
            Due.due("n 3001", go(x, which, 0, 0, 3001), BAD);
            for (int wild : WILD) {
                Due.due("routine " + wild, go(x, which, wild, 0, 9), BAD);
                Due.due("A " + wild, go(x, which, 0, wild, 9), BAD);
                Due.due("n " + wild, go(x, which, 0, 0, wild), BAD);
            }
            Due.due("A 0", go(x, which, 0, 0, 9), 1);
            Due.due("A at the end", x.told(which, 1), 0);
            Due.due("A 255", go(x, which, 0, 255, 9), 1);
            Due.due("A at the end", x.told(which, 1), 255);
            Due.due("the number", x.out(which, 0), 255);
            Due.due("n 1", go(x, which, 0, 7, 1), SPENT);
            Due.due("STEPS", x.told(which, 0), 1);
            Due.due("n 3000", go(x, which, 0, 7, 3000), 1);
        }
    }

    private static void badBeforeState() {
        Due.sentence("the first of these that fits: BAD .., STATE (run)");
        Counted x = Samples.single(0, 0);
        Due.due("run(0, 0, 1)", x.run(0, 0, 1), STATE);
        Due.due("run(0, 255, 3000)", x.run(0, 255, 3000), STATE);
        Due.due("run(1, 0, 1)", x.run(1, 0, 1), BAD);
        Due.due("run(-1, 0, 1)", x.run(-1, 0, 1), BAD);
        Due.due("run(0, 256, 1)", x.run(0, 256, 1), BAD);
        Due.due("run(0, -1, 1)", x.run(0, -1, 1), BAD);
        Due.due("run(0, 0, 0)", x.run(0, 0, 0), BAD);
        Due.due("run(0, 0, 3001)", x.run(0, 0, 3001), BAD);
        x.op(0, GOTO, 40);
        Due.due("link()", x.link(), 0);
        Due.due("behind a FAULT", x.run(0, 0, 1), STATE);
    }

    private static void refusedKeepsTheLatest() {
        Due.sentence("What is refused changes nothing (runs)");
        Counted x = Samples.chain();
        x.link();
        x.run(1, 2, 3000);
        x.flat(1, 2, 3000);
        for (int turn = 0; turn < 2; turn++) {
            Due.due("run, BAD", x.run(5, 0, 1), BAD);
            Due.due("run, BAD", x.run(0, 256, 1), BAD);
            Due.due("run, BAD", x.run(0, 0, 0), BAD);
            Due.due("flat, BAD", x.flat(5, 0, 1), BAD);
            Due.due("flat, BAD", x.flat(0, -1, 1), BAD);
            Due.due("flat, BAD", x.flat(0, 0, 3001), BAD);
            if (turn == 1) Due.due("run, STATE", x.run(1, 9, 9), STATE);
            Samples.dueTold("run", x, RUN, 78, 0, 6, 10, 12);
            Samples.dueOut("run", x, RUN, 3, 3, 2, 2, 2, 1);
            Samples.dueTold("flat", x, FLAT, 43, 0, 6, 4, 0);
            Samples.dueOut("flat", x, FLAT, 3, 3, 2, 2, 2, 1);
            x.limit(BANKS, 4);
        }
    }

    private static void routineWithoutOps() {
        Due.sentence("Behind the last OP of a ROUTINE, as one more, there is a BACK");
        for (int which = 0; which < 2; which++) {
            Counted x = linked(0);
            Due.due("no OPS, n 1", go(x, which, 0, 8, 1), 1);
            Samples.dueTold("no OPS", x, which, 1, 8, 0, 0, 0);
            Samples.dueOut("no OPS", x, which);
            x = linked(9);
            Due.due("no OPS, LOCALS, n 2", go(x, which, 0, 8, 2), 1);
            Due.due("STEPS: CLEAR is one of the bytes alone", x.told(which, 0), which == RUN ? 2 : 1);
            Due.due("no OPS, LOCALS, n 1", go(x, which, 0, 8, 1), which == RUN ? SPENT : 1);
        }
    }

    private static void stepsToTheLast() {
        Due.sentence("of n (1 .. 3000) STEPS at most: 1 DONE; SPENT");
        for (int which = 0; which < 2; which++) {
            Counted x = linked(0, TELL, 0, TELL, 0, TELL, 0);
            for (int n = 1; n < 6; n++) {
                Due.due("n " + n, go(x, which, 0, 8, n), n < 4 ? SPENT : 1);
                Samples.dueTold("n " + n, x, which, Math.min(n, 4), 8, Math.min(n, 3), 0, 0);
            }
        }
        // 11 rounds of ADD, IF, GOTO with A from 245 on, and 3 STEPS less in the last.
        for (int which = 0; which < 2; which++) {
            Counted x = linked(0, ADD, 1, IF, 3, GOTO, 0);
            Due.due("33 STEPS of 33", go(x, which, 0, 245, 33), 1);
            Due.due("33 STEPS of 32", go(x, which, 0, 245, 32), SPENT);
        }
    }

    private static void stepsOfAnEndlessRun() {
        Due.sentence("n (1 .. 3000) (a run without an end)");
        for (int which = 0; which < 2; which++) {
            Counted x = linked(0, ADD, 1, GOTO, 0);
            Due.due("3000", go(x, which, 0, 0, 3000), SPENT);
            Samples.dueTold("3000", x, which, 3000, 1500 % 256, 0, 0, 0);
            Due.due("2999", go(x, which, 0, 0, 2999), SPENT);
            Samples.dueTold("2999", x, which, 2999, 1500 % 256, 0, 0, 0);
            Due.due("1", go(x, which, 0, 0, 1), SPENT);
            Samples.dueTold("1", x, which, 1, 1, 0, 0, 0);
        }
    }

    private static void addModulo256() {
        Due.sentence("A more by v, modulo 256");
        int[][] sums = {{0, 0, 0}, {0, 255, 255}, {1, 255, 0}, {255, 1, 0}, {255, 255, 254}, {128, 128, 0}, {127, 128, 255}, {255, 0, 255}};
        for (int which = 0; which < 2; which++) {
            for (int[] sum : sums) {
                Counted x = linked(0, ADD, sum[1], TELL, 0);
                Due.due("run", go(x, which, 0, sum[0], 9), 1);
                Due.due(sum[0] + " and " + sum[1], x.out(which, 0), sum[2]);
                Due.due(sum[0] + " and " + sum[1], x.told(which, 1), sum[2]);
            }
        }
    }

    private static void ifAIsNothingElse() {
        Due.sentence("IF v (0 .. 40): if A is 0, OP v goes on");
        for (int which = 0; which < 2; which++) {
            Counted x = linked(0, IF, 2, TELL, 0);
            for (int a : new int[] {0, 1, 128, 255}) {
                Due.due("A " + a, go(x, which, 0, a, 9), 1);
                Samples.dueTold("A " + a, x, which, a == 0 ? 2 : 3, a, a == 0 ? 0 : 1, 0, 0);
            }
            x = linked(0, ADD, 1, IF, 3, TELL, 0);
            Due.due("A 255 and 1", go(x, which, 0, 255, 9), 1);
            Due.due("no number", x.told(which, 2), 0);
        }
    }

    /** The farthest jumps that 40 OPS allow, on by 117 bytes and back by 119. */
    private static void jumpsOnAndBack() {
        Due.sentence("IF, GOTO: PC more by v, as -128 to 127");
        for (int which = 0; which < 2; which++) {
            for (int code = IF; code <= GOTO; code++) {
                Counted x = Samples.single(0, 0);
                x.routine(0, 1);
                x.op(1, code, 40);
                for (int i = 0; i < 39; i++) x.op(1, CALL, 0);
                Due.due("link()", x.link(), 1);
                Due.due("on", go(x, which, 1, 0, 99), 1);
                Samples.dueTold("on", x, which, which == RUN ? 3 : 2, 0, 0, 0, 0);
                x = Samples.single(0, 0);
                x.routine(0, 1);
                for (int i = 0; i < 39; i++) x.op(1, CALL, 0);
                x.op(1, code, 0);
                Due.due("link()", x.link(), 1);
                Due.due("back", go(x, which, 1, 0, 3000), SPENT);
                Due.due("back", x.told(which, 3), 1);
                Due.due("one round and one CALL", go(x, which, 1, 0, 39 * 2 + 1 + 1 + (which == RUN ? 1 : 0)), SPENT);
                if (code == IF) Due.due("not back", go(x, which, 1, 1, 99), 1);
            }
        }
    }

    private static void backInTheMiddle() {
        Due.sentence("8 BACK: the ROUTINE ends");
        for (int which = 0; which < 2; which++) {
            Counted x = Samples.single(0, 0);
            x.routine(0, 0);
            Samples.ops(x, 0, TELL, 0, BACK, 0, TELL, 0);
            Samples.ops(x, 1, CALL, 0, ADD, 1, CALL, 0);
            Due.due("link()", x.link(), 1);
            Due.due("alone", go(x, which, 0, 6, 2), 1);
            Samples.dueOut("alone", x, which, 6);
            Due.due("the OP behind the CALL goes on", go(x, which, 1, 6, 8), 1);
            Samples.dueOut("called", x, which, 6, 7);
            Samples.dueTold("called", x, which, 8, 7, 2, 1, 0);
        }
    }

    private static void fortyOpsAndTheLastBack() {
        Due.sentence("as one more, there is a BACK (behind 40 OPS)");
        for (int which = 0; which < 2; which++) {
            Counted x = Samples.single(1, 0);
            for (int i = 0; i < 40; i++) x.op(0, i == 20 ? IF : ADD, i == 20 ? 40 : 1);
            x.link();
            Due.due("40 OPS", go(x, which, 0, 1, 41), 1);
            Samples.dueTold("40 OPS", x, which, 41, 40, 0, 0, 0);
            Due.due("one too few", go(x, which, 0, 1, 40), SPENT);
            Due.due("from the middle to the last BACK", go(x, which, 0, 236, 22), 1);
            Samples.dueTold("from the middle", x, which, 22, 0, 0, 0, 0);
        }
    }

    private static void eachCodeIsAStep() {
        Due.sentence("Each code is a STEP .. each OP is a STEP (the last BACK, too)");
        Counted x = Samples.single(0, 1);
        x.module(1);
        x.routine(1, 2);
        Samples.ops(x, 0, SET, 3, STORE, 0, CALL, 1, LOAD, 0, TELL, 0);
        x.link();
        // CLEAR SET STORE CALL | 9 10 CALL | CLEAR BACK | 11 BACK | LOAD TELL BACK
        int[] onStack = {0, 0, 0, 1, 2, 2, 3, 3, 3, 3, 3, 3, 3, 3};
        int[] switches = {0, 0, 0, 0, 0, 1, 1, 1, 1, 2, 2, 2, 2, 2};
        for (int n = 1; n <= 14; n++) {
            Due.due("run of " + n, x.run(0, 9, n), n < 14 ? SPENT : 1);
            Samples.dueTold("run of " + n, x, RUN, n, n < 2 ? 9 : 3, n < 13 ? 0 : 1, onStack[n - 1], switches[n - 1]);
        }
        int[] on = {0, 0, 1, 1, 1, 1, 1};
        for (int n = 1; n <= 7; n++) {
            Due.due("flat of " + n, x.flat(0, 9, n), n < 7 ? SPENT : 1);
            Samples.dueTold("flat of " + n, x, FLAT, n, 3, n < 6 ? 0 : 1, on[n - 1], 0);
        }
    }

    private static void localsAreZeroEachTime() {
        Due.sentence("As a ROUTINE begins, all its LOCALS are 0");
        for (int which = 0; which < 2; which++) {
            Counted x = Samples.single(0, 0);
            x.routine(0, 9);
            Samples.ops(x, 0, CALL, 1, CALL, 1);
            for (int v = 0; v < 9; v++) Samples.ops(x, 1, LOAD, v, TELL, 0);
            x.op(1, SET, 7);
            for (int v = 0; v < 9; v++) x.op(1, STORE, v);
            x.link();
            Due.due("run", go(x, which, 0, 5, 999), 1);
            Samples.dueOut("each time", x, which, new int[18]);
            Due.due("run again", go(x, which, 1, 5, 999), 1);
            Samples.dueOut("the next run", x, which, new int[9]);
        }
    }

    private static void localsStayOverACall() {
        Due.sentence("cells of routines that are never on together laid over one another");
        for (int which = 0; which < 2; which++) {
            Counted x = Samples.single(0, 2);
            x.module(1);
            x.routine(1, 9);
            x.routine(0, 2);
            Samples.ops(x, 0, STORE, 0, ADD, 1, STORE, 1, CALL, 1, CALL, 2, LOAD, 0, TELL, 0, LOAD, 1, TELL, 0);
            x.op(1, SET, 99);
            for (int v = 0; v < 9; v++) x.op(1, STORE, v);
            Samples.ops(x, 2, SET, 77, STORE, 1, CALL, 1, LOAD, 1, TELL, 0, LOAD, 0, TELL, 0);
            x.link();
            Due.due("BASE of 2", x.place(2, 3), 2);
            Due.due("BASE of 1", x.place(1, 3), 4);
            Due.due("run", go(x, which, 0, 40, 999), 1);
            Samples.dueOut("they stay", x, which, 77, 0, 40, 41);
        }
    }

    /** A chain of ROUTINES with 9 LOCALS, 7 times, and one with the last CELL: each holds its numbers. */
    private static void allCells() {
        Due.sentence("LOAD, STORE of a CELL (0 to 63)");
        for (int which = 0; which < 2; which++) {
            Counted x = new Counted();
            x.module(0);
            x.module(1);
            x.limit(CELLS, 64);
            x.limit(COMMON, 250);
            for (int r = 0; r < 8; r++) x.routine(r == 7 ? 1 : 0, r == 7 ? 1 : 9);
            for (int r = 0; r < 8; r++) {
                int last = r == 7 ? 0 : 8;
                Samples.ops(x, r, ADD, 1, STORE, 0, ADD, 1, STORE, last);
                if (r < 7) x.op(r, CALL, r + 1);
                Samples.ops(x, r, LOAD, last, TELL, 0, LOAD, 0, TELL, 0);
            }
            Due.due("link()", x.link(), 1);
            Due.due("count(6)", x.count(6), 64);
            Due.due("run", go(x, which, 0, 100, 999), 1);
            Samples.dueOut("each holds its numbers", x, which,
                    116, 116, 114, 113, 112, 111, 110, 109, 108, 107, 106, 105, 104, 103, 102, 101);
        }
    }

    private static void cellsAreZeroAtFirst() {
        Due.sentence("A run begins .. all CELLS 0, an empty stack");
        Counted x = Samples.single(0, 1);
        x.routine(0, 0);
        Samples.ops(x, 0, LOAD, 0, TELL, 0, SET, 5, STORE, 0, CALL, 1, GOTO, 0);
        x.link();
        Due.due("spent within a CALL", x.run(0, 1, 6), SPENT);
        Due.due("on the stack", x.told(RUN, 3), 1);
        Due.due("the next begins anew", x.run(0, 1, 3), SPENT);
        Samples.dueTold("the next", x, RUN, 3, 0, 1, 0, 0);
        Due.due("and ends with an empty stack", x.run(1, 1, 1), 1);
        Samples.dueTold("the last", x, RUN, 1, 1, 0, 0, 0);
    }

    private static void bankOfTheRoutine() {
        Due.sentence("A run begins at a ROUTINE, with the ROUTINE's BANK");
        Counted x = new Counted();
        x.limit(BANKS, 8);
        x.limit(SIZE, 8);
        for (int m = 0; m < 8; m++) {
            x.module(1);
            x.routine(m, 0);
            Samples.ops(x, m, SET, 10 + m, SET, 20 + m, SET, 30 + m, TELL, 0);
        }
        x.link();
        for (int m = 0; m < 8; m++) {
            Due.due("place(" + m + ", 0)", x.place(m, 0), m);
            Due.due("place(" + m + ", 1)", x.place(m, 1), 256);
            Due.due("run(" + m + ", 0, 5)", x.run(m, 0, 5), 1);
            Samples.dueOut("BANK " + m, x, RUN, 30 + m);
            Samples.dueTold("BANK " + m, x, RUN, 5, 30 + m, 1, 0, 0);
        }
    }

    private static void bankOfCommon() {
        Due.sentence("the ROUTINE's BANK (of COMMON 0)");
        Counted x = Samples.single(0, 0);
        x.limit(SIZE, 8);
        x.module(1);
        x.module(1);
        x.routine(1, 0);
        x.routine(2, 0);
        Samples.ops(x, 0, CALL, 2, CALL, 1);
        Samples.ops(x, 1, SET, 1, SET, 1, SET, 1, TELL, 0);
        Samples.ops(x, 2, SET, 2, SET, 2, SET, 2, TELL, 0);
        x.link();
        Due.due("run", x.run(0, 9, 99), 1);
        Samples.dueOut("into BANK 1, then 0", x, RUN, 2, 1);
        Samples.dueTold("switched by the THUNKS alone", x, RUN, 2 * (1 + 3 + 5 + 2) + 1, 1, 2, 3, 4);
        Due.due("behind a run in BANK 1", x.run(2, 9, 99), 1);
        Due.due("run", x.run(0, 9, 99), 1);
        Samples.dueOut("again", x, RUN, 2, 1);
    }

    private static void bankIsTakenBack() {
        Due.sentence("calls to other banks by thunks that switch and switch back");
        Counted x = new Counted();
        x.limit(SIZE, 14);
        for (int m = 0; m < 3; m++) {
            x.module(1);
            x.routine(m, 0);
        }
        for (int m = 0; m < 3; m++) {
            Samples.ops(x, m, ADD, 10, TELL, 0);
            if (m < 2) Samples.ops(x, m, CALL, m + 1);
            else Samples.ops(x, m, ADD, 0, TELL, 0);
            Samples.ops(x, m, ADD, 1, TELL, 0, ADD, 1, TELL, 0);
        }
        x.link();
        for (int m = 0; m < 3; m++) Due.due("BANK of " + m, x.place(m, 0), m);
        Due.due("run", x.run(0, 0, 99), 1);
        Samples.dueOut("run", x, RUN, 10, 20, 30, 30, 31, 32, 33, 34, 35, 36);
        Due.due("switched", x.told(RUN, 4), 4);
        Due.due("on the stack", x.told(RUN, 3), 6);
        Due.due("flat", x.flat(0, 0, 99), 1);
        Samples.dueOut("flat", x, FLAT, 10, 20, 30, 30, 31, 32, 33, 34, 35, 36);
        Samples.dueTold("flat", x, FLAT, 7 + 7 + 9 + 2, 36, 10, 2, 0);
    }

    private static void emptyStack() {
        Due.sentence("BACK: PC is taken from the stack; if that is empty, the run is DONE");
        Counted x = Samples.single(1, 0);
        x.routine(0, 0);
        Samples.ops(x, 0, CALL, 1, TELL, 0);
        x.link();
        Due.due("BACK with one on the stack", x.run(0, 3, 2), SPENT);
        Due.due("BACK of the first", x.run(0, 3, 4), 1);
        Samples.dueTold("run", x, RUN, 4, 3, 1, 1, 0);
        Due.due("BACK of the called one, alone", x.run(1, 3, 1), 1);
        Samples.dueTold("alone", x, RUN, 1, 3, 0, 0, 0);
    }

    private static void greatestStack() {
        Due.sentence("3 the greatest number on the stack");
        Counted x = new Counted();
        x.module(1);
        x.module(1);
        x.limit(STACK, 60);
        x.limit(COMMON, 160);
        x.limit(SIZE, 52);
        for (int r = 0; r < 21; r++) x.routine(r % 2, 0);
        for (int r = 0; r < 20; r++) Samples.ops(x, r, CALL, r + 1, TELL, 0);
        Due.due("link()", x.link(), 1);
        Due.due("THUNKS", x.count(4), 20);
        for (int r = 20; r >= 0; r -= 5) {
            Due.due("run(" + r + ", 1, 3000)", x.run(r, 1, 3000), 1);
            int far = 20 - r;
            Samples.dueTold("FAR CALLS: " + far, x, RUN, far * (1 + 3 + 2 + 2) + 1, 1, far, 3 * far, 2 * far);
            Due.due("DEPTH", x.place(r, 4), 3 * far);
        }
    }

    private static void flatWithoutImage() {
        Due.sentence("A FLAT run likewise: 1 DONE; SPENT. BAD");
        Counted x = Samples.chain();
        Due.due("no link() yet", x.flat(1, 0, 3), 1);
        Samples.dueTold("no link() yet", x, FLAT, 3, 0, 0, 0, 0);
        Samples.dueNoImage("flat makes none", x);
        x.link();
        Due.due("linked", x.flat(1, 0, 3), 1);
        Due.due("the IMAGE stays", x.count(3), 50);
        x.op(1, TELL, 0);
        Due.due("as it is told now", x.flat(1, 0, 4), 1);
        Due.due("STEPS", x.told(FLAT, 0), 4);
    }

    private static void sixtyOneThatAreOn() {
        Due.sentence("0, at once, behind the STEP of this CALL: a ROUTINE would begin within 61 that are on");
        Counted x = Samples.single(0, 0);
        Samples.ops(x, 0, ADD, 255, IF, 3, CALL, 0, TELL, 0);
        Due.due("60 on", x.flat(0, 60, 3000), 1);
        Samples.dueTold("60 on", x, FLAT, 59 * 3 + 2 + 60 * 2, 0, 60, 59, 0);
        Due.due("61 on", x.flat(0, 61, 3000), 1);
        Samples.dueTold("61 on", x, FLAT, 60 * 3 + 2 + 61 * 2, 0, 61, 60, 0);
        Due.due("62 on", x.flat(0, 62, 3000), 0);
        Samples.dueTold("62 on", x, FLAT, 61 * 3, 1, 0, 60, 0);
        Due.due("255 on", x.flat(0, 255, 3000), 0);
        Samples.dueTold("255 on", x, FLAT, 61 * 3, 194, 0, 60, 0);
    }

    private static void sixtyOneAgainAndAgain() {
        Due.sentence("61 that are on (not that were)");
        Counted x = Samples.single(0, 0);
        x.routine(0, 0);
        for (int i = 0; i < 39; i++) x.op(0, CALL, 1);
        x.op(0, GOTO, 0);
        Due.due("many, one behind the other", x.flat(0, 1, 3000), SPENT);
        Due.due("two on at once", x.told(FLAT, 3), 1);
        x.drop(0);
        x.op(0, CALL, 0);
        Due.due("39 within each of 61", x.flat(0, 1, 3000), SPENT);
        while (x.drop(0) > 1) Due.due("no IMAGE", x.count(3), STATE);
        x.op(0, CALL, 0);
        Due.due("CALL 1, CALL 0 .. to a CALL 1 within 61", x.flat(0, 1, 3000), 0);
        Samples.dueTold("60 rounds of 3, and one", x, FLAT, 60 * 3 + 1, 1, 0, 60, 0);
    }

    private static void flatLeadsAstray() {
        Due.sentence("or it leads to an OP above the number of OPS");
        for (int code = IF; code <= GOTO; code++) {
            Counted x = Samples.single(0, 0);
            Samples.ops(x, 0, TELL, 0, code, 3, TELL, 0);
            Due.due("to the last BACK", x.flat(0, 0, 9), 1);
            Samples.dueTold("to the last BACK", x, FLAT, 3, 0, 1, 0, 0);
            x.drop(0);
            Due.due("one above", x.flat(0, 0, 9), 0);
            Samples.dueTold("one above", x, FLAT, 2, 0, 1, 0, 0);
            Samples.dueOut("one above", x, FLAT, 0);
            x.drop(0);
            x.op(0, code, 40);
            Due.due("the greatest", x.flat(0, 0, 9), 0);
            Due.due("A is not 0", x.flat(0, 1, 9), code == IF ? 1 : 0);
            Due.due("STEPS", x.told(FLAT, 0), code == IF ? 3 : 2);
        }
        Counted x = Samples.single(0, 0);
        x.routine(0, 0);
        Samples.ops(x, 0, CALL, 1, TELL, 0);
        Samples.ops(x, 1, GOTO, 2);
        Due.due("of its own ROUTINE", x.flat(0, 5, 9), 0);
        Samples.dueTold("of its own ROUTINE", x, FLAT, 2, 5, 0, 1, 0);
    }

    private static void flatAstrayAtTheLastStep() {
        Due.sentence("0, at once, behind the STEP of this CALL, IF or GOTO");
        Counted x = Samples.single(0, 0);
        Samples.ops(x, 0, TELL, 0, GOTO, 3);
        Due.due("n 1", x.flat(0, 5, 1), SPENT);
        Due.due("n 2", x.flat(0, 5, 2), 0);
        Due.due("n 3", x.flat(0, 5, 3), 0);
        Due.due("STEPS", x.told(FLAT, 0), 2);
        x = Samples.single(0, 0);
        x.op(0, CALL, 0);
        Due.due("n 60", x.flat(0, 5, 60), SPENT);
        Samples.dueTold("n 60", x, FLAT, 60, 5, 0, 60, 0);
        Due.due("n 61", x.flat(0, 5, 61), 0);
        Samples.dueTold("n 61", x, FLAT, 61, 5, 0, 60, 0);
        Due.due("n 62", x.flat(0, 5, 62), 0);
        Samples.dueTold("n 62", x, FLAT, 61, 5, 0, 60, 0);
    }

    private static void flatWithAFault() {
        Due.sentence("as if there were no banks (a FAULT of linking is none of a FLAT run)");
        Counted x = Samples.chain();
        x.limit(STACK, 1);
        x.limit(CELLS, 0);
        x.limit(COMMON, 8);
        x.limit(BANKS, 1);
        x.limit(SIZE, 8);
        Due.due("link()", x.link(), 0);
        Due.due("flat(1, 2, 3000)", x.flat(1, 2, 3000), 1);
        Samples.dueTold("flat", x, FLAT, 43, 0, 6, 4, 0);
        Samples.dueOut("flat", x, FLAT, 3, 3, 2, 2, 2, 1);
        x = Samples.single(0, 0);
        Samples.ops(x, 0, BACK, 0, GOTO, 40, CALL, 0);
        Due.due("link()", x.link(), 0);
        Due.due("what is never reached", x.flat(0, 2, 1), 1);
    }

    private static void flatOwnLocals() {
        Due.sentence("each ROUTINE that is on with LOCALS of its own");
        Counted x = Samples.single(0, 9);
        Samples.ops(x, 0, STORE, 8, LOAD, 0, TELL, 0, LOAD, 8, STORE, 0,
                IF, 8, ADD, 255, CALL, 0, LOAD, 8, TELL, 0, LOAD, 0, TELL, 0);
        Due.due("61 of them on", x.flat(0, 60, 3000), 1);
        Due.due("numbers", x.told(FLAT, 2), 3 * 61);
        for (int i = 0; i < 61; i++) Due.due("LOCAL 0 as it begins", x.out(FLAT, i), 0);
        for (int i = 0; i < 39; i++) Due.due("LOCAL of the one that is back", x.out(FLAT, 61 + i), i / 2);
    }

    private static void hundredNumbersKept() {
        Due.sentence("the first 100 are kept; NONE");
        for (int which = 0; which < 2; which++) {
            Counted x = linked(0, TELL, 0, ADD, 1, GOTO, 0);
            for (int many = 99; many <= 101; many++) {
                go(x, which, 0, 100, 3 * many);
                Due.due("how many came", x.told(which, 2), many);
                Due.due("number 0", x.out(which, 0), 100);
                Due.due("number 98", x.out(which, 98), 198);
                Due.due("number 99", x.out(which, 99), many > 99 ? 199 : NONE);
                Due.due("number 100", x.out(which, 100), NONE);
            }
            go(x, which, 0, 0, 3000);
            Due.due("how many came", x.told(which, 2), 1000);
            Due.due("number 0 is the first, not a later one", x.out(which, 0), 0);
            Due.due("number 99", x.out(which, 99), 99);
            Due.due("number 100", x.out(which, 100), NONE);
            Due.due("number 999", x.out(which, 999), NONE);
            x = linked(0, TELL, 0, GOTO, 0);
            go(x, which, 0, 7, 2999);
            Due.due("the most that can come", x.told(which, 2), 1500);
        }
    }

    private static void outRefused() {
        Due.sentence("Number i of OUT of the latest run() (which = 0), flat() (1). BAD: which");
        Counted x = linked(0, TELL, 0);
        for (int ran = 0; ran < 2; ran++) {
            Due.due("out(-1, 0)", x.out(-1, 0), BAD);
            Due.due("out(2, 0)", x.out(2, 0), BAD);
            Due.due("out(2, -1)", x.out(2, -1), BAD);
            for (int wild : WILD) {
                Due.due("out(" + wild + ", 0)", x.out(wild, 0), BAD);
                for (int which = 0; which < 2; which++) Due.due("out(" + which + ", " + wild + ")", x.out(which, wild), NONE);
            }
            for (int which = 0; which < 2; which++) {
                Due.due("out(" + which + ", -1)", x.out(which, -1), NONE);
                Due.due("out(" + which + ", 0)", x.out(which, 0), ran == 0 ? NONE : 4);
                Due.due("out(" + which + ", 1)", x.out(which, 1), NONE);
                go(x, which, 0, 4, 9);
            }
        }
    }

    private static void outOfTheLatest() {
        Due.sentence("Number i of OUT of the latest run(), flat()");
        for (int which = 0; which < 2; which++) {
            Counted x = linked(0, TELL, 0, ADD, 1, GOTO, 0);
            x.routine(0, 0);
            x.link();
            go(x, which, 0, 0, 3000);
            Due.due("number 99", x.out(which, 99), 99);
            go(x, which, 0, 50, 4);
            Samples.dueOut("two numbers, no older ones behind them", x, which, 50, 51);
            Due.due("number 99", x.out(which, 99), NONE);
            go(x, which, 1, 50, 4);
            Samples.dueOut("none", x, which);
        }
    }

    private static void toldRefused() {
        Due.sentence("told: 0 .. 4. BAD");
        Counted x = linked(0, TELL, 0);
        for (int ran = 0; ran < 2; ran++) {
            for (int which = 0; which < 2; which++) {
                Due.due("told(" + which + ", -1)", x.told(which, -1), BAD);
                Due.due("told(" + which + ", 5)", x.told(which, 5), BAD);
                for (int wild : WILD) Due.due("told(" + which + ", " + wild + ")", x.told(which, wild), BAD);
                go(x, which, 0, 4, 9);
            }
            Due.due("told(-1, 0)", x.told(-1, 0), BAD);
            Due.due("told(2, 0)", x.told(2, 0), BAD);
            for (int wild : WILD) Due.due("told(" + wild + ", 0)", x.told(wild, 0), BAD);
        }
    }

    private static void toldOfASpentRun() {
        Due.sentence("0 STEPS, 1 A at the end");
        for (int which = 0; which < 2; which++) {
            Counted x = linked(0, ADD, 1, ADD, 1, TELL, 0, SET, 0);
            for (int n = 1; n < 5; n++) {
                Due.due("n " + n, go(x, which, 0, 254, n), SPENT);
                Samples.dueTold("n " + n, x, which, n, n == 1 ? 255 : 0, n < 3 ? 0 : 1, 0, 0);
            }
        }
    }

    private static void toldOfTheLatest() {
        Due.sentence("Of the latest run() (which = 0), flat() (1)");
        Counted x = Samples.chain();
        x.link();
        x.run(1, 2, 3000);
        x.flat(1, 2, 3000);
        Due.due("run", x.run(4, 9, 3), 1);
        Samples.dueTold("a small run behind a great one", x, RUN, 2, 9, 1, 0, 0);
        Samples.dueTold("flat stays", x, FLAT, 43, 0, 6, 4, 0);
        Due.due("flat", x.flat(4, 8, 1), SPENT);
        Samples.dueTold("a small one behind a great one", x, FLAT, 1, 8, 1, 0, 0);
        Samples.dueTold("run stays", x, RUN, 2, 9, 1, 0, 0);
    }

    private static void runAndFlatApart() {
        Due.sentence("of flat(): of ROUTINES that are on, less 1 .. 4 of flat() 0");
        Counted x = Samples.chain();
        x.link();
        x.run(1, 1, 3000);
        x.flat(1, 1, 3000);
        // 1, thunk, 0, thunk, 2, 3, thunk, 4, thunk, 3, 2, thunk, 0, thunk, 1
        Samples.dueTold("run", x, RUN, 4 + 3 + 3 + 3 + 2 + 3 + 3 + 2 + 2 + 1 + 2 + 2 + 3 + 2 + 6, 0, 3, 10, 6);
        Samples.dueTold("flat", x, FLAT, 23, 0, 3, 4, 0);
        Due.due("the same A", x.told(RUN, 1), x.told(FLAT, 1));
        for (int i = 0; i < 4; i++) Due.due("the same number " + i, x.out(RUN, i), x.out(FLAT, i));
    }
}
