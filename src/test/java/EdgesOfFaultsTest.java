/** Promises 7 and 8 at their edges: link, fault, and each FAULT just missed and just met. */
public final class EdgesOfFaultsTest implements Codes {
    public static void main(String[] args) {
        linkOfNothing();
        linkWithAFault();
        noFault();
        whatOfAFault();
        faultOfTheLatest();
        jumpToTheLastBack();
        firstStrayOp();
        onlyJumpsStray();
        jumpMadeStrayByDrop();
        callOfItself();
        loopNotWhatLeadsToIt();
        loopOfAll();
        noLoopInADiamond();
        moduleOfSize();
        commonModuleOverSize();
        sizeWithLocals();
        firstBigModule();
        roomToTheLastByte();
        asManyBanksAsThereAre();
        firstWithoutRoom();
        roomForNoBytes();
        commonToTheLastByte();
        commonOfThunks();
        cellsToTheLast();
        noCellsAtAll();
        cellsOfAChain();
        firstWithoutCells();
        stackToTheLast();
        stackOfFarCalls();
        firstTooDeep();
        firstFaultByNumber();
        Due.finish();
    }

    private static void linkOfNothing() {
        Due.sentence("All is linked: 1, there is an IMAGE");
        Counted x = new Counted();
        for (int modules = 0; modules < 3; modules++) {
            Due.due("link() of " + modules + " empty MODULES", x.link(), 1);
            for (int what = 3; what < 8; what++) Due.due("count(" + what + ")", x.count(what), 0);
            for (int b = NONE; b < 4; b++) Due.due("image(" + b + ", 0)", x.image(b, 0), NONE);
            x.module(modules);
        }
    }

    private static void linkWithAFault() {
        Due.sentence("0: there is a FAULT (and no IMAGE)");
        Counted x = Samples.chain();
        Due.due("link()", x.link(), 1);
        x.limit(STACK, 9);
        Due.due("link() with a FAULT", x.link(), 0);
        Samples.dueNoImage("a FAULT", x);
        Due.due("link() with a FAULT again", x.link(), 0);
        x.limit(STACK, 10);
        Samples.dueNoImage("mended, not linked", x);
        Due.due("link()", x.link(), 1);
        Due.due("count(3)", x.count(3), 50);
    }

    private static void noFault() {
        Due.sentence("0: it had none, or there was no link()");
        Counted x = new Counted();
        Due.due("fault(0), no link()", x.fault(0), 0);
        Due.due("fault(1), no link()", x.fault(1), NONE);
        Due.due("fault(2), no link()", x.fault(2), NONE);
        Samples.dueFault("nothing", x, 0, NONE, NONE);
        x = Samples.single(0, 0);
        x.op(0, GOTO, 40);
        Due.due("fault(0), not linked yet", x.fault(0), 0);
        Samples.dueFault("a FAULT", x, 1, 0, 0);
        x.drop(0);
        Samples.dueFault("none any more", x, 0, NONE, NONE);
    }

    private static void whatOfAFault() {
        Due.sentence("Of the FAULT: 0 its number, 1 the ROUTINE, 2 the OP. BAD");
        Counted x = new Counted();
        Due.due("fault(-1)", x.fault(-1), BAD);
        Due.due("fault(3)", x.fault(3), BAD);
        x.link();
        for (int wild : WILD) Due.due("fault(" + wild + ")", x.fault(wild), BAD);
        Due.due("fault(-1)", x.fault(-1), BAD);
        Due.due("fault(3)", x.fault(3), BAD);
    }

    private static void faultOfTheLatest() {
        Due.sentence("Of the FAULT of the latest link()");
        Counted x = Samples.single(0, 1);
        x.routine(0, 0);
        Samples.ops(x, 1, TELL, 0, GOTO, 9);
        Samples.dueFault("a jump", x, 1, 1, 1);
        x.drop(1);
        Due.due("the ROUTINE of the latest", x.fault(1), 1);
        x.op(1, CALL, 1);
        Samples.dueFault("a loop, no OP of before", x, 2, 1, NONE);
        x.drop(1);
        x.limit(CELLS, 0);
        Samples.dueFault("cells", x, 6, 0, NONE);
        Samples.fillTo(x, 1, 2, 8);
        x.limit(COMMON, 8);
        Samples.dueFault("COMMON, no ROUTINE of before", x, 5, NONE, NONE);
    }

    private static void jumpToTheLastBack() {
        Due.sentence("so v of IF, GOTO may be how many OPS there are");
        for (int code = IF; code <= GOTO; code++) {
            Counted x = Samples.single(0, 0);
            x.op(0, code, 1);
            Samples.dueFault("1 of 1", x, 0, NONE, NONE);
            x.drop(0);
            x.op(0, code, 2);
            Samples.dueFault("2 of 1", x, 1, 0, 0);
            x.drop(0);
            x.op(0, code, 40);
            for (int i = 1; i < 39; i++) x.op(0, TELL, 0);
            Samples.dueFault("40 of 39", x, 1, 0, 0);
            x.op(0, TELL, 0);
            Samples.dueFault("40 of 40", x, 0, NONE, NONE);
        }
    }

    private static void firstStrayOp() {
        Due.sentence("1 an IF or GOTO to an OP above the number of OPS (the first OP)");
        Counted x = Samples.single(0, 0);
        x.routine(0, 0);
        x.routine(0, 0);
        Samples.ops(x, 2, GOTO, 9);
        Samples.dueFault("the last ROUTINE", x, 1, 2, 0);
        Samples.ops(x, 1, TELL, 0, BACK, 0, GOTO, 4, IF, 5, GOTO, 6);
        Samples.dueFault("the first ROUTINE, its first OP, behind a BACK", x, 1, 1, 4);
        x.op(1, TELL, 0);
        Samples.dueFault("the ROUTINE behind it", x, 1, 2, 0);
        x.drop(1);
        x.drop(1);
        Samples.dueFault("one OP before", x, 1, 1, 3);
        x.drop(1);
        Samples.dueFault("and one more", x, 1, 1, 2);
    }

    private static void onlyJumpsStray() {
        Due.sentence("1 an IF or GOTO");
        Counted x = new Counted();
        x.module(0);
        for (int r = 0; r < 30; r++) x.routine(0, r == 0 ? 9 : 0);
        Samples.ops(x, 0, SET, 255, ADD, 255, TELL, 99, LOAD, 8, STORE, 8, CALL, 29, BACK, 99);
        Samples.dueFault("numbers above the number of OPS", x, 0, NONE, NONE);
    }

    private static void jumpMadeStrayByDrop() {
        Due.sentence("above the number of OPS");
        Counted x = Samples.single(1, 0);
        Samples.ops(x, 0, IF, 3, TELL, 0, TELL, 0);
        Samples.dueFault("3 of 3", x, 0, NONE, NONE);
        x.drop(0);
        Samples.dueFault("3 of 2", x, 1, 0, 0);
        x.op(0, BACK, 0);
        Samples.dueFault("3 of 3 again", x, 0, NONE, NONE);
    }

    private static void callOfItself() {
        Due.sentence("2 a ROUTINE from which CALLS lead to itself");
        Counted x = Samples.single(0, 0);
        x.routine(0, 0);
        Samples.ops(x, 1, BACK, 0, CALL, 1);
        Samples.dueFault("itself, behind a BACK", x, 2, 1, NONE);
        x.drop(1);
        Samples.dueFault("dropped", x, 0, NONE, NONE);
        x.op(0, CALL, 1);
        Samples.dueFault("one way", x, 0, NONE, NONE);
        x.op(1, CALL, 0);
        Samples.dueFault("and back", x, 2, 0, NONE);
    }

    private static void loopNotWhatLeadsToIt() {
        Due.sentence("from which CALLS lead to itself");
        Counted x = Samples.single(0, 0);
        for (int r = 1; r < 5; r++) x.routine(0, 0);
        x.op(0, CALL, 1);
        x.op(1, CALL, 3);
        x.op(3, CALL, 4);
        x.op(4, CALL, 3);
        x.op(2, CALL, 4);
        Samples.dueFault("0 to 1 to a loop of 3 and 4", x, 2, 3, NONE);
    }

    private static void loopOfAll() {
        Due.sentence("CALLS lead to itself, by way of all 30");
        for (int step = 1; step < 30; step += 28) {
            Counted x = new Counted();
            x.module(0);
            x.limit(STACK, 60);
            for (int r = 0; r < 30; r++) x.routine(0, 0);
            for (int r = 0; r < 29; r++) x.op((r * step + 5) % 30, CALL, ((r + 1) * step + 5) % 30);
            Samples.dueFault("a chain of all", x, 0, NONE, NONE);
            x.op((29 * step + 5) % 30, CALL, 5);
            Samples.dueFault("a loop of all", x, 2, 0, NONE);
        }
    }

    private static void noLoopInADiamond() {
        Due.sentence("a ROUTINE that is called by several is no loop");
        Counted x = Samples.single(0, 0);
        for (int r = 1; r < 4; r++) x.routine(0, 0);
        Samples.ops(x, 0, CALL, 1, CALL, 2, CALL, 1, CALL, 3);
        Samples.ops(x, 1, CALL, 3);
        Samples.ops(x, 2, CALL, 3, CALL, 1);
        Samples.dueFault("a diamond", x, 0, NONE, NONE);
    }

    private static void moduleOfSize() {
        Due.sentence("3 a MODULE of KIND 1 with more bytes than SIZE");
        for (int size : new int[] {8, 9, 100, 250}) {
            Counted x = new Counted();
            if (size != 100) x.limit(SIZE, size);
            x.module(1);
            int m = Samples.moduleOf(x, KIND_BANK, size);
            Samples.dueFault("as many as " + size, x, 0, NONE, NONE);
            x.routine(m, 0);
            Samples.dueFault("one more than " + size, x, 3, m, NONE);
            if (size == 250) continue;
            x.limit(SIZE, size + 1);
            Samples.dueFault("and SIZE one more than " + size, x, 0, NONE, NONE);
        }
    }

    private static void commonModuleOverSize() {
        Due.sentence("3 a MODULE of KIND 1");
        Counted x = new Counted();
        x.limit(SIZE, 8);
        Samples.moduleOf(x, KIND_COMMON, 9);
        Samples.dueFault("9 bytes in COMMON", x, 0, NONE, NONE);
        Samples.moduleOf(x, KIND_BANK, 9);
        Samples.dueFault("9 bytes for a BANK", x, 3, 1, NONE);
    }

    private static void sizeWithLocals() {
        Due.sentence("if it has LOCALS, CLEAR: 3 bytes");
        Counted x = Samples.single(1, 1);
        x.limit(SIZE, 8);
        Samples.fillTo(x, 0, 4, 8);
        Samples.dueFault("8 with CLEAR", x, 0, NONE, NONE);
        x.op(0, TELL, 0);
        Samples.dueFault("9 with CLEAR", x, 3, 0, NONE);
        x = Samples.single(1, 0);
        x.limit(SIZE, 8);
        Samples.fillTo(x, 0, 1, 8);
        Samples.dueFault("8 without CLEAR", x, 0, NONE, NONE);
        x.op(0, TELL, 0);
        Samples.dueFault("9 without CLEAR", x, 3, 0, NONE);
    }

    private static void firstBigModule() {
        Due.sentence("of one the first ROUTINE or MODULE by numbers (3)");
        Counted x = new Counted();
        x.limit(SIZE, 8);
        for (int m = 0; m < 3; m++) x.module(1);
        Samples.fillTo(x, x.routine(2, 0), 1, 9);
        Samples.dueFault("the last", x, 3, 2, NONE);
        Samples.fillTo(x, x.routine(1, 0), 1, 20);
        Samples.dueFault("the one before", x, 3, 1, NONE);
    }

    private static void roomToTheLastByte() {
        Due.sentence("4 one for which no BANK has room");
        Counted x = new Counted();
        x.limit(BANKS, 1);
        x.limit(SIZE, 8);
        Samples.moduleOf(x, KIND_BANK, 5);
        Samples.moduleOf(x, KIND_BANK, 3);
        Samples.dueFault("5 and 3 of 8", x, 0, NONE, NONE);
        x.op(1, TELL, 0);
        Samples.dueFault("5 and 4 of 8", x, 4, 1, NONE);
        x.limit(SIZE, 9);
        Samples.dueFault("5 and 4 of 9", x, 0, NONE, NONE);
        x.limit(SIZE, 8);
        x.limit(BANKS, 2);
        Samples.dueFault("5 and 4 of 8 twice", x, 0, NONE, NONE);
    }

    private static void asManyBanksAsThereAre() {
        Due.sentence("no BANK: 1 to 8 (at first 4)");
        for (int banks : new int[] {1, 4, 8}) {
            Counted x = new Counted();
            if (banks != 4) x.limit(BANKS, banks);
            x.limit(SIZE, 8);
            for (int m = 0; m < banks; m++) Samples.moduleOf(x, KIND_BANK, 5);
            Samples.dueFault("one for each of " + banks, x, 0, NONE, NONE);
            Due.due("count(5)", x.count(5), banks);
            Due.due("the BANK of the last", x.place(banks - 1, 0), banks - 1);
            Samples.moduleOf(x, KIND_BANK, 4);
            Samples.dueFault("one more than " + banks, x, 4, banks, NONE);
            x.drop(banks);
            Samples.dueFault("one that is small enough", x, 0, NONE, NONE);
            Due.due("it is in the first BANK", x.place(banks, 0), 0);
        }
    }

    private static void firstWithoutRoom() {
        Due.sentence("of one the first ROUTINE or MODULE by numbers (4)");
        Counted x = new Counted();
        x.limit(BANKS, 1);
        x.limit(SIZE, 8);
        int[] bytes = {4, 3, 2, 1, 3};
        for (int m = 0; m < 5; m++) Samples.moduleOf(x, KIND_BANK, bytes[m]);
        Samples.dueFault("2 behind 7", x, 4, 2, NONE);
        x.drop(2);
        Samples.dueFault("1 behind 8", x, 4, 3, NONE);
    }

    private static void roomForNoBytes() {
        Due.sentence("in which it has room behind what is there (also if it has no bytes)");
        Counted x = new Counted();
        x.limit(BANKS, 1);
        x.limit(SIZE, 8);
        x.module(1);
        Samples.moduleOf(x, KIND_BANK, 8);
        x.module(1);
        x.module(0);
        Samples.dueFault("MODULES without bytes, a full BANK", x, 0, NONE, NONE);
        Due.due("count(5)", x.count(5), 1);
        Due.due("the MODULE with bytes is the first", x.place(0, 1), 256);
        Due.due("bytes of COMMON", x.count(3), 0);
        x.routine(2, 0);
        Samples.dueFault("one byte, a full BANK", x, 4, 2, NONE);
        x.limit(BANKS, 2);
        Samples.dueFault("one byte, an empty BANK", x, 0, NONE, NONE);
        Due.due("count(5)", x.count(5), 2);
    }

    private static void commonToTheLastByte() {
        Due.sentence("5 COMMON is too small (NONE)");
        for (int size : new int[] {8, 9, 200, 250}) {
            Counted x = new Counted();
            if (size != 200) x.limit(COMMON, size);
            Samples.moduleOf(x, KIND_COMMON, size - 3);
            Samples.moduleOf(x, KIND_BANK, 20);
            Samples.moduleOf(x, KIND_COMMON, 3);
            Samples.dueFault("as many as " + size, x, 0, NONE, NONE);
            x.routine(2, 0);
            Samples.dueFault("one more than " + size, x, 5, NONE, NONE);
            if (size == 250) continue;
            x.limit(COMMON, size + 1);
            Samples.dueFault("and COMMON one more than " + size, x, 0, NONE, NONE);
        }
    }

    private static void commonOfThunks() {
        Due.sentence("COMMON: MODULES of KIND 0, then the THUNKS, 8 bytes each");
        Counted x = new Counted();
        x.limit(SIZE, 8);
        x.limit(COMMON, 8);
        Samples.moduleOf(x, KIND_BANK, 8);
        x.module(1);
        x.routine(1, 0);
        Samples.ops(x, 1, CALL, 0, CALL, 0);
        Samples.dueFault("one THUNK of 8", x, 0, NONE, NONE);
        x.module(0);
        x.routine(2, 0);
        Samples.dueFault("one byte and a THUNK of 8", x, 5, NONE, NONE);
        x.limit(COMMON, 9);
        Samples.dueFault("one byte and a THUNK of 9", x, 0, NONE, NONE);
        x.op(2, CALL, 1);
        x.limit(COMMON, 19);
        Samples.dueFault("4 bytes and two THUNKS of 19", x, 5, NONE, NONE);
        x.limit(COMMON, 20);
        Samples.dueFault("4 bytes and two THUNKS of 20", x, 0, NONE, NONE);
    }

    private static void cellsToTheLast() {
        Due.sentence("6 a ROUTINE with BASE and LOCALS above CELLS");
        Counted x = Samples.single(0, 9);
        x.limit(CELLS, 9);
        Samples.dueFault("9 of 9", x, 0, NONE, NONE);
        x.limit(CELLS, 8);
        Samples.dueFault("9 of 8", x, 6, 0, NONE);
        x.routine(0, 1);
        x.op(0, CALL, 1);
        x.limit(CELLS, 10);
        Samples.dueFault("10 of 10", x, 0, NONE, NONE);
        x.limit(CELLS, 9);
        Samples.dueFault("10 of 9", x, 6, 1, NONE);
    }

    private static void noCellsAtAll() {
        Due.sentence("CELLS 0 to 64");
        Counted x = Samples.single(0, 0);
        x.limit(CELLS, 0);
        Samples.dueFault("none of 0", x, 0, NONE, NONE);
        Due.due("count(6)", x.count(6), 0);
        x.routine(0, 1);
        Samples.dueFault("1 of 0", x, 6, 1, NONE);
        x.op(1, CALL, 0);
        Samples.dueFault("a BASE of 1 without LOCALS, of 0", x, 6, 0, NONE);
        x.limit(CELLS, 1);
        Samples.dueFault("1 of 1", x, 0, NONE, NONE);
    }

    /** A chain of routines, the first by number calls the next. */
    private static Counted chainOfLocals(int... locals) {
        Counted x = new Counted();
        x.module(0);
        for (int r = 0; r < locals.length; r++) x.routine(0, locals[r]);
        for (int r = 1; r < locals.length; r++) x.op(r - 1, CALL, r);
        return x;
    }

    private static void cellsOfAChain() {
        Due.sentence("CELLS 0 to 64 (32)");
        Samples.dueFault("32 at first", chainOfLocals(9, 9, 9, 5), 0, NONE, NONE);
        Samples.dueFault("33 at first", chainOfLocals(9, 9, 9, 6), 6, 3, NONE);
        Counted x = chainOfLocals(9, 9, 9, 9, 9, 9, 9, 1);
        x.limit(CELLS, 64);
        Samples.dueFault("64 of 64", x, 0, NONE, NONE);
        Due.due("count(6)", x.count(6), 64);
        x = chainOfLocals(9, 9, 9, 9, 9, 9, 9, 0, 2);
        x.limit(CELLS, 64);
        Samples.dueFault("65 of 64", x, 6, 8, NONE);
    }

    private static void firstWithoutCells() {
        Due.sentence("of one the first ROUTINE or MODULE by numbers (6)");
        Counted x = new Counted();
        x.module(0);
        for (int r = 0; r < 4; r++) x.routine(0, 4);
        x.op(3, CALL, 2);
        x.op(2, CALL, 1);
        x.limit(CELLS, 11);
        Samples.dueFault("12 of 11", x, 6, 1, NONE);
        x.limit(CELLS, 7);
        Samples.dueFault("12 and 8 of 7", x, 6, 1, NONE);
        x.limit(CELLS, 3);
        Samples.dueFault("all of 3", x, 6, 0, NONE);
    }

    private static Counted nearChain(int routines) {
        Counted x = new Counted();
        x.module(0);
        for (int r = 0; r < routines; r++) x.routine(0, 0);
        for (int r = 1; r < routines; r++) x.op(r - 1, CALL, r);
        return x;
    }

    private static void stackToTheLast() {
        Due.sentence("7 one with DEPTH above STACK");
        Samples.dueFault("20 at first", nearChain(21), 0, NONE, NONE);
        Samples.dueFault("21 at first", nearChain(22), 7, 0, NONE);
        Counted x = nearChain(2);
        x.limit(STACK, 1);
        Samples.dueFault("1 of 1", x, 0, NONE, NONE);
        x = nearChain(3);
        x.limit(STACK, 1);
        Samples.dueFault("2 of 1", x, 7, 0, NONE);
        x.limit(STACK, 2);
        Samples.dueFault("2 of 2", x, 0, NONE, NONE);
        x = nearChain(30);
        x.limit(STACK, 29);
        Samples.dueFault("29 of 29", x, 0, NONE, NONE);
        x.limit(STACK, 28);
        Samples.dueFault("29 of 28", x, 7, 0, NONE);
    }

    /** Routines that call the next, by turns in one of two banks. */
    private static Counted farChain(int routines) {
        Counted x = new Counted();
        x.limit(COMMON, 250);
        x.limit(SIZE, 4 * ((routines + 1) / 2));
        x.module(1);
        x.module(1);
        for (int r = 0; r < routines; r++) x.routine(r % 2, 0);
        for (int r = 1; r < routines; r++) x.op(r - 1, CALL, r);
        return x;
    }

    private static void stackOfFarCalls() {
        Due.sentence("and 1 (NEAR) or 3 (FAR), added .. STACK 1 to 60");
        Counted x = farChain(4);
        x.limit(STACK, 9);
        Samples.dueFault("9 of 9", x, 0, NONE, NONE);
        x.limit(STACK, 8);
        Samples.dueFault("9 of 8", x, 7, 0, NONE);
        x = farChain(21);
        x.limit(STACK, 60);
        Samples.dueFault("60 of 60", x, 0, NONE, NONE);
        Due.due("place(0, 4)", x.place(0, 4), 60);
        x.module(0);
        x.routine(2, 0);
        x.op(20, CALL, 21);
        x.limit(SIZE, 84);
        Due.due("in one BANK", x.link(), 1);
        Due.due("all NEAR", x.place(0, 4), 20 + 1);
        x.limit(SIZE, 83);
        Samples.dueFault("61 of 60", x, 7, 0, NONE);
        x = farChain(22);
        x.limit(STACK, 60);
        Samples.dueFault("63 of 60", x, 7, 0, NONE);
    }

    private static void firstTooDeep() {
        Due.sentence("of one the first ROUTINE or MODULE by numbers (7)");
        Counted x = new Counted();
        x.module(0);
        for (int r = 0; r < 5; r++) x.routine(0, 0);
        x.op(4, CALL, 2);
        x.op(2, CALL, 3);
        x.op(3, CALL, 0);
        x.limit(STACK, 2);
        Samples.dueFault("3 of 2", x, 7, 4, NONE);
        x.limit(STACK, 1);
        Samples.dueFault("3 and 2 of 1", x, 7, 2, NONE);
    }

    /** The fault with the smaller number stands at the greater routine or module. */
    private static void firstFaultByNumber() {
        Due.sentence("FAULTS of linking, the first by number");
        Counted x = Samples.single(0, 0);
        x.routine(0, 0);
        x.op(0, CALL, 0);
        x.op(1, GOTO, 40);
        Samples.dueFault("1 and 2", x, 1, 1, 0);

        x = new Counted();
        x.limit(SIZE, 8);
        Samples.moduleOf(x, KIND_BANK, 9);
        x.module(1);
        x.routine(1, 0);
        x.op(1, CALL, 1);
        Samples.dueFault("2 and 3", x, 2, 1, NONE);

        x = new Counted();
        x.limit(BANKS, 1);
        x.limit(SIZE, 8);
        Samples.moduleOf(x, KIND_BANK, 5);
        Samples.moduleOf(x, KIND_BANK, 5);
        Samples.moduleOf(x, KIND_BANK, 9);
        Samples.dueFault("3 and 4", x, 3, 2, NONE);

        x = new Counted();
        x.limit(BANKS, 1);
        x.limit(SIZE, 8);
        x.limit(COMMON, 8);
        Samples.moduleOf(x, KIND_COMMON, 9);
        Samples.moduleOf(x, KIND_BANK, 5);
        Samples.moduleOf(x, KIND_BANK, 5);
        Samples.dueFault("4 and 5", x, 4, 2, NONE);

        x = Samples.single(0, 1);
        x.limit(CELLS, 0);
        x.limit(COMMON, 8);
        Samples.fillTo(x, 0, 4, 9);
        Samples.dueFault("5 and 6", x, 5, NONE, NONE);

        x = chainOfLocals(0, 0, 1);
        x.limit(STACK, 1);
        x.limit(CELLS, 0);
        Samples.dueFault("6 and 7", x, 6, 2, NONE);
    }
}
