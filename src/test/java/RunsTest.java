/** Promises 13 to 16: run, flat, out, told. */
public final class RunsTest {
    private static final int NONE = Samples.NONE, BAD = Samples.BAD, STATE = Samples.STATE, SPENT = Samples.SPENT;

    public static void main(String[] args) {
        promise13Run();
        promise13Spent();
        promise13Refusals();
        promise13EachRoutine();
        promise13LocalsBegin();
        promise13GreatestRun();
        promise14Flat();
        promise14Astray();
        promise14LocalsOfItsOwn();
        promise14Refusals();
        promise15Out();
        promise16Told();
        Due.finish();
    }

    private static void promise13Run() {
        Counted x = Samples.chain();
        x.link();
        Due.due("run(1, 2, 3000)", x.run(1, 2, 3000), 1);
        Samples.dueTold("chain", x, 0, 78, 0, 6, 10, 12);
        Samples.dueOut("chain", x, 0, 3, 3, 2, 2, 2, 1);
        Samples.dueTold("flat is not touched", x, 1, 0, 0, 0, 0, 0);
        Due.due("run(1, 2, 78)", x.run(1, 2, 78), 1);
        Due.due("run(1, 0, 4)", x.run(1, 0, 4), 1);
        Samples.dueTold("nothing to do", x, 0, 4, 0, 0, 0, 0);
        Samples.dueOut("nothing to do", x, 0);
    }

    private static void promise13Spent() {
        Counted x = Samples.chain();
        x.link();
        Due.due("run(1, 2, 77)", x.run(1, 2, 77), SPENT);
        Samples.dueTold("one too few", x, 0, 77, 0, 6, 10, 12);
        Due.due("run(1, 255, 6)", x.run(1, 255, 6), SPENT);
        Samples.dueTold("the bank is set", x, 0, 6, 255, 0, 2, 1);
        Due.due("run(1, 255, 1)", x.run(1, 255, 1), SPENT);
        Samples.dueTold("one step", x, 0, 1, 255, 0, 0, 0);
    }

    private static void promise13Refusals() {
        Counted x = Samples.chain();
        Due.due("no image", x.run(0, 0, 1), STATE);
        Due.due("BAD is ahead of STATE", x.run(5, 0, 1), BAD);
        Due.due("BAD is ahead of STATE", x.run(0, 256, 1), BAD);
        Due.due("BAD is ahead of STATE", x.run(0, 0, 0), BAD);
        x.link();
        x.run(1, 2, 3000);
        Due.due("routine 5", x.run(5, 0, 1), BAD);
        Due.due("routine -1", x.run(-1, 0, 1), BAD);
        Due.due("A 256", x.run(0, 256, 1), BAD);
        Due.due("A -1", x.run(0, -1, 1), BAD);
        Due.due("n 0", x.run(0, 0, 0), BAD);
        Due.due("n 3001", x.run(0, 0, 3001), BAD);
        for (int wild : Samples.WILD) {
            Due.due("wild routine", x.run(wild, 0, 1), BAD);
            Due.due("wild A", x.run(0, wild, 1), BAD);
            Due.due("wild n", x.run(0, 0, wild), BAD);
        }
        x.limit(Samples.SIZE, 16);
        Due.due("the image is gone", x.run(1, 2, 3000), STATE);
        Samples.dueTold("the latest run stays", x, 0, 78, 0, 6, 10, 12);
        Samples.dueOut("the latest run stays", x, 0, 3, 3, 2, 2, 2, 1);
    }

    /** A run may begin in any bank, and a near call from there stays in it. */
    private static void promise13EachRoutine() {
        Counted x = Samples.chain();
        x.link();
        Due.due("run(0, 7, 99)", x.run(0, 7, 99), 1);
        Samples.dueOut("from bank 0", x, 0, 8, 8, 7);
        Samples.dueTold("from bank 0", x, 0, 26, 7, 3, 7, 4);
        Due.due("run(2, 255, 99)", x.run(2, 255, 99), 1);
        Samples.dueOut("from bank 1", x, 0, 0, 0);
        Samples.dueTold("from bank 1", x, 0, 15, 0, 2, 4, 2);
        Due.due("run(3, 9, 99)", x.run(3, 9, 99), 1);
        Samples.dueOut("from COMMON", x, 0, 9);
        Samples.dueTold("from COMMON", x, 0, 11, 9, 1, 3, 2);
        Due.due("run(4, 1, 2)", x.run(4, 1, 2), 1);
        Samples.dueTold("the last one", x, 0, 2, 1, 1, 0, 0);
    }

    /** Locals are 0 as their routine begins, also if others have used their cells. */
    private static void promise13LocalsBegin() {
        Counted x = Samples.single(0, 1);
        x.routine(0, 1);
        x.routine(0, 2);
        Samples.ops(x, 0, Samples.CALL, 1, Samples.CALL, 2);
        Samples.ops(x, 1, Samples.SET, 77, Samples.STORE, 0);
        Samples.ops(x, 2, Samples.LOAD, 0, Samples.TELL, 0, Samples.LOAD, 1, Samples.TELL, 0);
        x.link();
        Due.due("base of 1", x.place(1, 3), 1);
        Due.due("base of 2", x.place(2, 3), 1);
        Due.due("run", x.run(0, 5, 99), 1);
        Samples.dueOut("cells laid over", x, 0, 0, 0);
        Due.due("flat", x.flat(0, 5, 99), 1);
        Samples.dueOut("cells laid over", x, 1, 0, 0);
    }

    /** 20 far calls within one another, with 60 on the stack, and 64 cells, each with its number. */
    private static void promise13GreatestRun() {
        Counted x = new Counted();
        x.module(1);
        x.module(1);
        x.limit(Samples.STACK, 60);
        x.limit(Samples.CELLS, 64);
        x.limit(Samples.COMMON, 160);
        x.limit(Samples.SIZE, 151);
        for (int r = 0; r < 21; r++) x.routine(r % 2, r == 20 ? 4 : 3);
        for (int r = 0; r < 21; r++) {
            int last = r == 20 ? 3 : 2;
            Samples.ops(x, r, Samples.ADD, 1, Samples.STORE, last);
            if (r < 20) x.op(r, Samples.CALL, r + 1);
            Samples.ops(x, r, Samples.LOAD, last, Samples.TELL, 0);
        }
        Due.due("link()", x.link(), 1);
        Due.due("depth", x.place(0, 4), 60);
        Due.due("cells", x.count(6), 64);
        Due.due("far calls", x.count(7), 20);
        Due.due("run(0, 250, 3000)", x.run(0, 250, 3000), 1);
        Samples.dueTold("greatest", x, 0, 20 * (4 + 3 + 2 + 3) + 6, 251, 21, 60, 40);
        Due.due("flat(0, 250, 3000)", x.flat(0, 250, 3000), 1);
        Samples.dueTold("greatest", x, 1, 21 * 6 - 1, 251, 21, 20, 0);
        for (int i = 0; i < 21; i++) {
            Due.due("number " + i, x.out(0, i), (271 - i) % 256);
            Due.due("number " + i, x.out(1, i), (271 - i) % 256);
        }
        x.limit(Samples.STACK, 59);
        Samples.dueFault("59 on the stack", x, 7, 0, NONE);
    }

    private static void promise14Flat() {
        Counted x = Samples.chain();
        Due.due("flat(1, 2, 3000)", x.flat(1, 2, 3000), 1);
        Samples.dueTold("chain", x, 1, 43, 0, 6, 4, 0);
        Samples.dueOut("chain", x, 1, 3, 3, 2, 2, 2, 1);
        Samples.dueTold("run is not touched", x, 0, 0, 0, 0, 0, 0);
        Due.due("flat(1, 2, 43)", x.flat(1, 2, 43), 1);
        Due.due("flat(1, 2, 42)", x.flat(1, 2, 42), SPENT);
        Samples.dueTold("one too few", x, 1, 42, 0, 6, 4, 0);
        Due.due("no image comes of it", x.count(3), STATE);
    }

    private static void promise14Astray() {
        Counted x = Samples.single(0, 0);
        Samples.ops(x, 0, Samples.IF, 4, Samples.TELL, 0, Samples.GOTO, 5);
        Due.due("IF that leads astray", x.flat(0, 0, 9), 0);
        Samples.dueTold("IF that leads astray", x, 1, 1, 0, 0, 0, 0);
        Due.due("at the last step", x.flat(0, 0, 1), 0);
        Due.due("GOTO that leads astray", x.flat(0, 6, 9), 0);
        Samples.dueTold("GOTO that leads astray", x, 1, 3, 6, 1, 0, 0);
        Samples.dueOut("GOTO that leads astray", x, 1, 6);
        Due.due("before it", x.flat(0, 6, 2), SPENT);
        x.op(0, Samples.TELL, 0);
        Due.due("IF to the last BACK", x.flat(0, 0, 9), 1);
        Samples.dueTold("IF to the last BACK", x, 1, 2, 0, 0, 0, 0);

        x = Samples.single(1, 1);
        Samples.ops(x, 0, Samples.ADD, 255, Samples.IF, 3, Samples.CALL, 0);
        Due.due("61 that are on", x.flat(0, 61, 3000), 1);
        Samples.dueTold("61 that are on", x, 1, 60 * 3 + 2 + 61, 0, 0, 60, 0);
        Due.due("62 that are on", x.flat(0, 62, 3000), 0);
        Samples.dueTold("62 that are on", x, 1, 61 * 3, 1, 0, 60, 0);
        Due.due("62 at the last step", x.flat(0, 62, 183), 0);
        Due.due("one step before", x.flat(0, 62, 182), SPENT);
    }

    private static void promise14LocalsOfItsOwn() {
        Counted x = Samples.single(0, 2);
        Samples.ops(x, 0, Samples.STORE, 1, Samples.LOAD, 0, Samples.TELL, 0, Samples.LOAD, 1,
                Samples.IF, 8, Samples.ADD, 255, Samples.STORE, 0, Samples.CALL, 0, Samples.LOAD, 1, Samples.TELL, 0);
        Due.due("a routine within itself", x.flat(0, 2, 99), 1);
        Samples.dueOut("a routine within itself", x, 1, 0, 0, 0, 0, 1, 2);
    }

    private static void promise14Refusals() {
        Counted x = Samples.chain();
        x.flat(1, 2, 3000);
        Due.due("routine 5", x.flat(5, 0, 1), BAD);
        Due.due("routine -1", x.flat(-1, 0, 1), BAD);
        Due.due("A 256", x.flat(0, 256, 1), BAD);
        Due.due("A -1", x.flat(0, -1, 1), BAD);
        Due.due("n 0", x.flat(0, 0, 0), BAD);
        Due.due("n 3001", x.flat(0, 0, 3001), BAD);
        for (int wild : Samples.WILD) {
            Due.due("wild routine", x.flat(wild, 0, 1), BAD);
            Due.due("wild A", x.flat(0, wild, 1), BAD);
            Due.due("wild n", x.flat(0, 0, wild), BAD);
        }
        Samples.dueTold("the latest flat stays", x, 1, 43, 0, 6, 4, 0);
    }

    private static void promise15Out() {
        Counted x = Samples.single(1, 0);
        Samples.ops(x, 0, Samples.TELL, 0, Samples.ADD, 1, Samples.GOTO, 0);
        x.link();
        for (int which = 0; which < 2; which++) {
            Due.due("99 numbers", which == 0 ? x.run(0, 200, 297) : x.flat(0, 200, 297), SPENT);
            Due.due("number 98", x.out(which, 98), (200 + 98) % 256);
            Due.due("number 99", x.out(which, 99), NONE);
            Due.due("how many", x.told(which, 2), 99);
            Due.due("1000 numbers", which == 0 ? x.run(0, 3, 3000) : x.flat(0, 3, 3000), SPENT);
            for (int i = 0; i < 100; i++) Due.due("number " + i, x.out(which, i), 3 + i);
            Due.due("number 100", x.out(which, 100), NONE);
            Due.due("number -1", x.out(which, -1), NONE);
            Due.due("how many", x.told(which, 2), 1000);
            Due.due("one number", which == 0 ? x.run(0, 9, 2) : x.flat(0, 9, 2), SPENT);
            Samples.dueOut("one number", x, which, 9);
            for (int wild : Samples.WILD) {
                Due.due("wild number", x.out(which, wild), NONE);
                Due.due("wild which", x.out(wild, 0), BAD);
            }
        }
        Due.due("which 2", x.out(2, 0), BAD);
        Due.due("which -1", x.out(-1, 0), BAD);
    }

    private static void promise16Told() {
        Counted x = Samples.chain();
        x.link();
        x.run(1, 2, 3000);
        x.flat(1, 1, 3000);
        Samples.dueTold("run", x, 0, 78, 0, 6, 10, 12);
        Samples.dueTold("flat", x, 1, 23, 0, 3, 4, 0);
        x.op(4, Samples.TELL, 0);
        x.link();
        Samples.dueTold("run, behind a change", x, 0, 78, 0, 6, 10, 12);
        for (int which = 0; which < 2; which++) {
            Due.due("what 5", x.told(which, 5), BAD);
            Due.due("what -1", x.told(which, -1), BAD);
            for (int wild : Samples.WILD) Due.due("wild what", x.told(which, wild), BAD);
        }
        Due.due("which 2", x.told(2, 0), BAD);
        Due.due("which -1", x.told(-1, 0), BAD);
        for (int wild : Samples.WILD) Due.due("wild which", x.told(wild, 0), BAD);
    }
}
