/** Promises 7 to 12: link, fault, place, image, count, leads. */
public final class LinkingTest {
    private static final int NONE = Samples.NONE, BAD = Samples.BAD, STATE = Samples.STATE;

    public static void main(String[] args) {
        promise7Link();
        promise8StrayJump();
        promise8LoopOfCalls();
        promise8BigModule();
        promise8NoRoom();
        promise8SmallCommon();
        promise8FewCells();
        promise8LowStack();
        promise8OrderOfFaults();
        promise9Place();
        promise9FirstBankWithRoom();
        promise9GreatestOfCallers();
        promise9LongChains();
        promise9LinkedAgain();
        promise10Image();
        promise10Jumps();
        promise10GreatestImage();
        promise11Count();
        promise11OnlyRoutine();
        promise12Leads();
        Due.finish();
    }

    private static void promise7Link() {
        Counted x = new Counted();
        Due.due("link() of nothing", x.link(), 1);
        Due.due("count(3) of nothing", x.count(3), 0);
        Due.due("image of nothing", x.image(-1, 0), NONE);
        x = Samples.chain();
        Due.due("link()", x.link(), 1);
        Due.due("link() again", x.link(), 1);
        x.op(4, Samples.GOTO, 40);
        Due.due("link() with a fault", x.link(), 0);
        Due.due("no image", x.place(0, 0), STATE);
        x.drop(4);
        Due.due("no image before link()", x.place(0, 0), STATE);
        Due.due("link() without the fault", x.link(), 1);
        Due.due("the image is back", x.place(0, 1), 256);
    }

    private static void promise8StrayJump() {
        Counted x = Samples.single(0, 0);
        x.routine(0, 0);
        Samples.ops(x, 1, Samples.TELL, 0, Samples.IF, 3, Samples.GOTO, 3);
        Samples.dueFault("jumps to the last BACK", x, 0, NONE, NONE);
        x.op(1, Samples.GOTO, 6);
        x.op(1, Samples.IF, 6);
        Samples.dueFault("a jump too far", x, 1, 1, 3);
        x.op(1, Samples.TELL, 0);
        Samples.dueFault("it may be told later", x, 0, NONE, NONE);
        x.op(0, Samples.IF, 2);
        Samples.dueFault("the first routine", x, 1, 0, 0);
        for (int wild : Samples.WILD) Due.due("wild fault", x.fault(wild), BAD);
        Due.due("fault(3)", x.fault(3), BAD);
        Due.due("fault(-1)", x.fault(-1), BAD);
        x.drop(0);
        Due.due("the fault of the latest link()", x.fault(0), 1);
    }

    private static void promise8LoopOfCalls() {
        Counted x = Samples.single(0, 0);
        for (int r = 1; r < 4; r++) x.routine(0, 0);
        x.op(0, Samples.CALL, 2);
        x.op(2, Samples.CALL, 3);
        Samples.dueFault("a chain", x, 0, NONE, NONE);
        x.op(3, Samples.CALL, 2);
        Samples.dueFault("a loop behind a chain", x, 2, 2, NONE);
        x.op(1, Samples.CALL, 1);
        Samples.dueFault("a call of itself", x, 2, 1, NONE);
    }

    private static void promise8BigModule() {
        Counted x = new Counted();
        x.module(0);
        x.module(1);
        x.module(1);
        for (int r = 0; r < 9; r++) x.routine(0, 0);
        for (int r = 0; r < 8; r++) x.routine(2, 0);
        x.limit(Samples.SIZE, 8);
        Samples.dueFault("as many as SIZE", x, 0, NONE, NONE);
        x.routine(2, 0);
        Samples.dueFault("one more", x, 3, 2, NONE);
        for (int r = 0; r < 9; r++) x.routine(1, 0);
        Samples.dueFault("the first module", x, 3, 1, NONE);
    }

    private static void promise8NoRoom() {
        Counted x = new Counted();
        for (int m = 0; m < 4; m++) x.module(1);
        x.limit(Samples.SIZE, 8);
        x.limit(Samples.BANKS, 2);
        for (int r = 0; r < 16; r++) x.routine(r / 8, 0);
        Samples.dueFault("full banks, and modules without bytes", x, 0, NONE, NONE);
        x.routine(3, 0);
        Samples.dueFault("no room", x, 4, 3, NONE);
        x.routine(2, 0);
        Samples.dueFault("the first without room", x, 4, 2, NONE);
        x.limit(Samples.BANKS, 3);
        Samples.dueFault("room again", x, 0, NONE, NONE);
    }

    private static void promise8SmallCommon() {
        Counted x = Samples.chain();
        x.limit(Samples.COMMON, 50);
        Samples.dueFault("50 bytes", x, 0, NONE, NONE);
        x.limit(Samples.COMMON, 49);
        Samples.dueFault("49 bytes", x, 5, NONE, NONE);
        x = Samples.single(0, 9);
        for (int i = 0; i < 40; i++) x.op(0, Samples.CALL, 0);
        for (int i = 0; i < 40; i++) x.drop(0);
        x.limit(Samples.COMMON, 8);
        Samples.dueFault("4 bytes", x, 0, NONE, NONE);
        Samples.ops(x, 0, Samples.SET, 0, Samples.SET, 0);
        Samples.dueFault("8 bytes", x, 0, NONE, NONE);
        x.op(0, Samples.TELL, 0);
        Samples.dueFault("9 bytes", x, 5, NONE, NONE);
    }

    private static void promise8FewCells() {
        Counted x = Samples.chain();
        x.limit(Samples.CELLS, 6);
        Samples.dueFault("6 cells", x, 0, NONE, NONE);
        x.limit(Samples.CELLS, 5);
        Samples.dueFault("5 cells", x, 6, 3, NONE);
        x.limit(Samples.CELLS, 2);
        Samples.dueFault("2 cells", x, 6, 0, NONE);
        x = Samples.single(0, 0);
        x.routine(0, 9);
        x.op(1, Samples.CALL, 0);
        x.limit(Samples.CELLS, 8);
        Samples.dueFault("a BASE above CELLS, no locals", x, 6, 0, NONE);
    }

    private static void promise8LowStack() {
        Counted x = Samples.chain();
        x.limit(Samples.STACK, 10);
        Samples.dueFault("10 on the stack", x, 0, NONE, NONE);
        x.limit(Samples.STACK, 9);
        Samples.dueFault("9 on the stack", x, 7, 1, NONE);
        x.limit(Samples.STACK, 6);
        Samples.dueFault("6 on the stack", x, 7, 0, NONE);
    }

    private static void promise8OrderOfFaults() {
        Counted x = Samples.chain();
        x.limit(Samples.STACK, 1);
        Samples.dueFault("stack", x, 7, 0, NONE);
        x.limit(Samples.CELLS, 0);
        Samples.dueFault("cells and stack", x, 6, 0, NONE);
        x.limit(Samples.COMMON, 8);
        Samples.dueFault("common and those", x, 5, NONE, NONE);
        x.limit(Samples.BANKS, 1);
        Samples.dueFault("room and those", x, 4, 2, NONE);
        x.limit(Samples.SIZE, 14);
        Samples.dueFault("size and those", x, 3, 0, NONE);
        x.op(4, Samples.CALL, 1);
        Samples.dueFault("a loop and those", x, 2, 0, NONE);
        x.op(4, Samples.IF, 39);
        Samples.dueFault("a jump and those", x, 1, 4, 3);
    }

    private static void promise9Place() {
        Counted x = Samples.chain();
        Due.due("place(5, 0) without an image", x.place(5, 0), BAD);
        Due.due("place(0, 6) without an image", x.place(0, 6), BAD);
        Due.due("place(0, 0) without an image", x.place(0, 0), STATE);
        Due.due("link()", x.link(), 1);
        int[][] due = {
            {0, 256, 26, 1, 7, 12},
            {NONE, 0, NONE, 0, 10, 17},
            {1, 256, 34, 3, 4, 7},
            {NONE, 17, NONE, 3, 3, 9},
            {0, 268, 42, 6, 0, 3},
        };
        for (int r = 0; r < due.length; r++) {
            for (int what = 0; what < 6; what++) {
                Due.due("place(" + r + ", " + what + ")", x.place(r, what), due[r][what]);
            }
        }
        Due.due("place(0, -1)", x.place(0, -1), BAD);
        Due.due("place(0, 6)", x.place(0, 6), BAD);
        Due.due("place(5, 0)", x.place(5, 0), BAD);
        Due.due("place(-1, 0)", x.place(-1, 0), BAD);
        for (int wild : Samples.WILD) {
            Due.due("wild routine", x.place(wild, 0), BAD);
            Due.due("wild what", x.place(0, wild), BAD);
        }
    }

    private static void promise9FirstBankWithRoom() {
        Counted x = new Counted();
        int[] sizes = {5, 6, 3, 2, 1};
        for (int m = 0; m < sizes.length; m++) {
            x.module(1);
            x.routine(m, 0);
            for (int i = 1; i < sizes[m]; i++) x.op(m, Samples.TELL, 0);
        }
        x.limit(Samples.SIZE, 8);
        Due.due("link()", x.link(), 1);
        int[] banks = {0, 1, 0, 1, 2};
        int[] addresses = {256, 256, 261, 262, 256};
        for (int r = 0; r < sizes.length; r++) {
            Due.due("bank of " + r, x.place(r, 0), banks[r]);
            Due.due("address of " + r, x.place(r, 1), addresses[r]);
        }
        Due.due("banks with bytes", x.count(5), 3);
    }

    private static void promise9GreatestOfCallers() {
        Counted x = new Counted();
        x.module(0);
        x.module(1);
        x.module(1);
        x.limit(Samples.SIZE, 8);
        x.routine(0, 2);
        x.routine(0, 5);
        x.routine(1, 1);
        x.routine(2, 4);
        x.routine(0, 0);
        Samples.ops(x, 0, Samples.CALL, 1, Samples.CALL, 2, Samples.CALL, 4);
        Samples.ops(x, 1, Samples.BACK, 0, Samples.CALL, 2);
        Samples.ops(x, 3, Samples.CALL, 4);
        Due.due("link()", x.link(), 1);
        int[] bases = {0, 2, 7, 0, 4};
        int[] depths = {4, 3, 0, 1, 0};
        for (int r = 0; r < bases.length; r++) {
            Due.due("base of " + r, x.place(r, 3), bases[r]);
            Due.due("depth of " + r, x.place(r, 4), depths[r]);
        }
        Due.due("one thunk for two calls", x.count(4), 1);
        Due.due("far calls", x.count(7), 2);
        Due.due("cells", x.count(6), 8);
    }

    /** Chains of 30 routines, up and down their numbers: BASE and DEPTH come through all of them. */
    private static void promise9LongChains() {
        for (int down = 0; down < 2; down++) {
            Counted x = new Counted();
            x.module(0);
            x.limit(Samples.COMMON, 250);
            x.limit(Samples.STACK, 60);
            x.limit(Samples.CELLS, 60);
            for (int r = 0; r < 30; r++) x.routine(0, r % 3 + 1);
            for (int r = 1; r < 30; r++) x.op(down == 1 ? r : r - 1, Samples.CALL, down == 1 ? r - 1 : r);
            Due.due("link()", x.link(), 1);
            int base = 0;
            for (int k = 0; k < 30; k++) {
                int r = down == 1 ? 29 - k : k;
                Due.due("chain: base of " + r, x.place(r, 3), base);
                Due.due("chain: depth of " + r, x.place(r, 4), 29 - k);
                base += r % 3 + 1;
            }
            Due.due("chain: cells", x.count(6), 60);
        }
    }

    /** What the image before had told is not left in the next one. */
    private static void promise9LinkedAgain() {
        Counted x = Samples.chain();
        Due.due("link()", x.link(), 1);
        x.drop(3);
        x.drop(3);
        for (int i = 0; i < 3; i++) x.drop(2);
        Due.due("link()", x.link(), 1);
        int[][] due = {
            {0, 256, 21, 1, 1, 12},
            {NONE, 0, NONE, 0, 4, 17},
            {0, 271, NONE, 3, 0, 1},
            {NONE, 17, NONE, 0, 0, 4},
            {0, 268, NONE, 0, 0, 3},
        };
        for (int r = 0; r < due.length; r++) {
            for (int what = 0; what < 6; what++) {
                Due.due("again: place(" + r + ", " + what + ")", x.place(r, what), due[r][what]);
            }
        }
        int[] counts = {3, 5, 12, 29, 1, 1, 3, 1};
        for (int what = 0; what < 8; what++) Due.due("again: count(" + what + ")", x.count(what), counts[what]);
        Samples.dueBytes("again", x, 1);
    }

    /** COMMON and a bank with 250 bytes each: 3 routines of 81, 81 and 88 bytes. */
    private static Counted greatest() {
        Counted x = new Counted();
        x.limit(Samples.SIZE, 250);
        x.limit(Samples.COMMON, 250);
        for (int m = 0; m < 2; m++) {
            x.module(m);
            for (int k = 0; k < 3; k++) {
                int r = x.routine(m, 0);
                for (int i = 0; i < 40; i++) {
                    if (k == 2 && i < 7) x.op(r, Samples.CALL, r - 1);
                    else x.op(r, Samples.SET, m);
                }
            }
        }
        return x;
    }

    private static void promise10GreatestImage() {
        Counted x = greatest();
        Due.due("link()", x.link(), 1);
        for (int b = -1; b < 1; b++) {
            Due.due("byte 0", x.image(b, 0), 0);
            Due.due("byte 1", x.image(b, 1), b + 1);
            Due.due("byte 249", x.image(b, 249), 8);
            Due.due("byte 250", x.image(b, 250), NONE);
        }
        Due.due("count(3)", x.count(3), 250);
        Due.due("count(5)", x.count(5), 1);
        x.routine(0, 0);
        Samples.dueFault("251 bytes of COMMON", x, 5, NONE, NONE);
        x.routine(1, 0);
        Samples.dueFault("251 bytes of a bank", x, 3, 1, NONE);
    }

    private static void promise10Image() {
        Counted x = Samples.chain();
        Due.due("image(4, 0) without an image", x.image(4, 0), BAD);
        Due.due("image(0, 0) without an image", x.image(0, 0), STATE);
        Due.due("link()", x.link(), 1);
        Samples.dueBytes("chain", x, 0, 12, 1, 2, 4, 2, 5, 34, 0, 3, 2, 2, 8, 2, 8, 8);
        Samples.dueBytes("chain", x, 1, 1, 1, 5, 17, 0, 2, 8);
        Samples.dueBytes("chain", x, 2);
        Samples.dueBytes("chain", x, 3);
        Samples.dueBytes("chain", x, NONE,
                12, 0, 1, 4, 0, 6, 9, 5, 26, 0, 3, 0, 1, 255, 7, 243, 8,
                12, 3, 3, 4, 5, 5, 42, 0, 8,
                9, 10, 0, 5, 0, 1, 11, 8,
                9, 10, 1, 5, 0, 1, 11, 8,
                9, 10, 0, 5, 12, 1, 11, 8);
        Due.due("image(-2, 0)", x.image(-2, 0), BAD);
        Due.due("image(4, 0)", x.image(4, 0), BAD);
        Due.due("image(0, -1)", x.image(0, -1), NONE);
        for (int wild : Samples.WILD) {
            Due.due("wild bank", x.image(wild, 0), BAD);
            Due.due("wild byte", x.image(0, wild), NONE);
        }
        x.limit(Samples.BANKS, 2);
        Due.due("link() with 2 banks", x.link(), 1);
        Due.due("image(1, 0) of 2 banks", x.image(1, 0), 1);
        Due.due("image(2, 0) of 2 banks", x.image(2, 0), BAD);
        x.limit(Samples.SIZE, 250);
        Due.due("link() with great banks", x.link(), 1);
        Due.due("bank 1 is empty now", x.image(1, 0), NONE);
        Due.due("a near call in one bank", x.image(0, 6), 15);
        Due.due("a near call in one bank", x.image(0, 7), 1);
    }

    private static void promise10Jumps() {
        Counted x = Samples.single(0, 1);
        x.routine(0, 0);
        Samples.ops(x, 0, Samples.GOTO, 40);
        for (int i = 1; i < 39; i++) x.op(0, Samples.CALL, 1);
        x.op(0, Samples.GOTO, 0);
        Due.due("link()", x.link(), 1);
        Due.due("to the last BACK", x.image(NONE, 4), 38 * 3 + 2);
        Due.due("to the first op", x.image(NONE, 3 + 2 + 38 * 3 + 1), 256 - (2 + 38 * 3 + 2));
        x.drop(0);
        x.op(0, Samples.GOTO, 39);
        Due.due("link()", x.link(), 1);
        Due.due("to itself", x.image(NONE, 3 + 2 + 38 * 3 + 1), 254);
        x.drop(0);
        x.op(0, Samples.IF, 40);
        Due.due("link()", x.link(), 1);
        Due.due("to the next", x.image(NONE, 3 + 2 + 38 * 3 + 1), 0);
    }

    private static void promise11Count() {
        Counted x = Samples.chain();
        int[] due = {3, 5, 17, 50, 3, 2, 6, 3};
        for (int what = 0; what < 8; what++) {
            Due.due("count(" + what + ")", x.count(what), what < 3 ? due[what] : STATE);
        }
        Due.due("link()", x.link(), 1);
        for (int what = 0; what < 8; what++) Due.due("count(" + what + ")", x.count(what), due[what]);
        Due.due("count(8)", x.count(8), BAD);
        Due.due("count(-1)", x.count(-1), BAD);
        for (int wild : Samples.WILD) Due.due("wild count", x.count(wild), BAD);
        x.op(0, Samples.CALL, 2);
        x.limit(Samples.SIZE, 18);
        Due.due("link()", x.link(), 1);
        Due.due("each far call counts", x.count(7), 4);
        Due.due("but its thunk once", x.count(4), 3);
        x.limit(Samples.SIZE, 100);
        Due.due("link()", x.link(), 1);
        Due.due("far calls in one bank", x.count(7), 2);
        Due.due("thunks with one bank", x.count(4), 2);
        Due.due("bytes of COMMON with one bank", x.count(3), 42);
        Due.due("one bank", x.count(5), 1);
    }

    /** Counts of one routine alone, and of a far call that is its first op. */
    private static void promise11OnlyRoutine() {
        Counted x = Samples.single(1, 0);
        Due.due("link()", x.link(), 1);
        int[] due = {1, 1, 0, 0, 0, 1, 0, 0};
        for (int what = 0; what < 8; what++) Due.due("alone: count(" + what + ")", x.count(what), due[what]);
        x.module(0);
        x.routine(1, 7);
        x.op(1, Samples.CALL, 0);
        Due.due("link()", x.link(), 1);
        int[] dueNow = {2, 2, 1, 15, 1, 1, 7, 1};
        for (int what = 0; what < 8; what++) Due.due("two: count(" + what + ")", x.count(what), dueNow[what]);
        x = Samples.single(1, 4);
        Due.due("link()", x.link(), 1);
        Due.due("cells of routine 0", x.count(6), 4);
    }

    private static void promise12Leads() {
        Counted x = Samples.chain();
        int[] order = {1, 0, 2, 3, 4};
        for (int i = 0; i < 5; i++) {
            for (int k = 0; k < 5; k++) {
                Due.due("leads(" + order[i] + ", " + order[k] + ")", x.leads(order[i], order[k]), i < k ? 1 : 0);
            }
        }
        x.op(3, Samples.CALL, 2);
        Due.due("a loop", x.leads(2, 2), 1);
        Due.due("a loop", x.leads(3, 3), 1);
        Due.due("no loop", x.leads(0, 0), 0);
        x.drop(3);
        Due.due("the loop went", x.leads(2, 2), 0);
        x.op(4, Samples.CALL, 4);
        Due.due("itself", x.leads(4, 4), 1);
        Due.due("leads(5, 0)", x.leads(5, 0), BAD);
        Due.due("leads(0, 5)", x.leads(0, 5), BAD);
        Due.due("leads(-1, 0)", x.leads(-1, 0), BAD);
        Due.due("leads(0, -1)", x.leads(0, -1), BAD);
        for (int wild : Samples.WILD) {
            Due.due("wild from", x.leads(wild, 0), BAD);
            Due.due("wild to", x.leads(0, wild), BAD);
        }
        x = Samples.single(0, 0);
        for (int r = 1; r < 30; r++) {
            x.routine(0, 0);
            x.op(r, Samples.CALL, r - 1);
        }
        Due.due("a chain of all", x.leads(29, 0), 1);
        Due.due("not back", x.leads(0, 29), 0);
        x.op(0, Samples.CALL, 29);
        Due.due("a loop of all", x.leads(15, 15), 1);
    }
}
