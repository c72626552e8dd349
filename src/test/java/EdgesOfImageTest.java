/** Promises 9 to 12 at their edges: place, image, count, leads. */
public final class EdgesOfImageTest implements Codes {
    public static void main(String[] args) {
        placeRefused();
        placeInCommon();
        bytesOfOps();
        bytesOfTheGreatest();
        routinesByNumbers();
        firstBankWithRoom();
        firstNotTheBest();
        oneByteTooMany();
        nearAndFar();
        thunksByNumbers();
        thunkBesideNearCall();
        thunkOfTheLastBank();
        greatestAddress();
        baseOfOneNotCalled();
        greatestOfTheCallers();
        baseThroughOneWithoutLocals();
        depthOfOneThatCallsNothing();
        greatestOfTheCalled();
        chainsOfAll();
        callsBehindABack();
        imageRefused();
        imageOfSoManyBanks();
        lastByte();
        cellsInTheBytes();
        numbersInTheBytes();
        jumpsInTheBytes();
        backBehindABack();
        countRefused();
        countOfOps();
        countOfCells();
        countOfFarCalls();
        countOfBanks();
        leadsRefused();
        leadsToItself();
        leadsOneWay();
        leadsAsItIsNow();
        imageOfTheLatest();
        Due.finish();
    }

    private static void placeRefused() {
        Due.sentence("Of a ROUTINE in the IMAGE: 0 .. 5. BAD; STATE");
        Counted x = Samples.single(0, 0);
        x.routine(0, 0);
        for (int linked = 0; linked < 2; linked++) {
            Due.due("place(-1, 0)", x.place(-1, 0), BAD);
            Due.due("place(2, 0)", x.place(2, 0), BAD);
            Due.due("place(0, -1)", x.place(0, -1), BAD);
            Due.due("place(0, 6)", x.place(0, 6), BAD);
            for (int wild : WILD) {
                Due.due("place(" + wild + ", 0)", x.place(wild, 0), BAD);
                Due.due("place(0, " + wild + ")", x.place(0, wild), BAD);
            }
            Due.due("place(1, 0)", x.place(1, 0), linked == 0 ? STATE : NONE);
            Due.due("place(1, 5)", x.place(1, 5), linked == 0 ? STATE : 1);
            Due.due("link()", x.link(), 1);
        }
    }

    private static void duePlace(Counted x, int routine, int... due) {
        for (int what = 0; what < 6; what++) Due.due("place(" + routine + ", " + what + ")", x.place(routine, what), due[what]);
    }

    private static void placeInCommon() {
        Due.sentence("0 its BANK (NONE: COMMON), 2 the address of its THUNK (NONE)");
        Counted x = Samples.single(0, 0);
        x.link();
        duePlace(x, 0, NONE, 0, NONE, 0, 0, 1);
        x = Samples.single(1, 0);
        x.link();
        duePlace(x, 0, 0, 256, NONE, 0, 0, 1);
        x.module(0);
        x.routine(1, 0);
        x.op(1, CALL, 0);
        x.link();
        duePlace(x, 0, 0, 256, 4, 0, 0, 1);
        duePlace(x, 1, NONE, 0, NONE, 0, 3, 4);
    }

    private static void bytesOfOps() {
        Due.sentence("how many bytes they have");
        int[] bytes = {2, 2, 1, 2, 2, 3, 2, 2, 1};
        for (int code = 0; code <= 8; code++) {
            for (int locals = 0; locals < 10; locals += 9) {
                if (locals == 0 && (code == LOAD || code == STORE)) continue;
                Counted x = Samples.single(0, 0);
                x.routine(0, locals);
                int clear = locals == 0 ? 0 : 3;
                x.link();
                Due.due("no OPS", x.place(1, 5), clear + 1);
                x.op(1, code, 0);
                x.link();
                Due.due("one of code " + code, x.place(1, 5), clear + bytes[code] + 1);
                x.op(1, code, 0);
                x.link();
                Due.due("two of code " + code, x.place(1, 5), clear + 2 * bytes[code] + 1);
                Due.due("bytes of COMMON", x.count(3), 1 + clear + 2 * bytes[code] + 1);
            }
        }
    }

    private static void bytesOfTheGreatest() {
        Due.sentence("Bytes of a ROUTINE, the greatest");
        Counted x = Samples.single(0, 0);
        x.routine(0, 9);
        for (int i = 0; i < 40; i++) x.op(1, CALL, 0);
        Due.due("link()", x.link(), 1);
        duePlace(x, 1, NONE, 1, NONE, 0, 1, 3 + 40 * 3 + 1);
        duePlace(x, 0, NONE, 0, NONE, 9, 0, 1);
    }

    private static void routinesByNumbers() {
        Due.sentence("A MODULE's are those of its ROUTINES, by numbers .. MODULES of KIND 0, by numbers");
        for (int kind = 0; kind < 2; kind++) {
            int start = 256 * kind;
            Counted x = new Counted();
            x.module(kind);
            x.module(1 - kind);
            x.module(kind);
            int[] owners = {2, 0, 2, 0, 1};
            int[] bytes = {4, 2, 1, 3, 7};
            for (int r = 0; r < 5; r++) Samples.fillTo(x, x.routine(owners[r], 0), 1, bytes[r]);
            Due.due("link()", x.link(), 1);
            int[] address = {start + 5, start, start + 9, start + 2, 256 - start};
            for (int r = 0; r < 5; r++) Due.due("place(" + r + ", 1)", x.place(r, 1), address[r]);
            Samples.dueBytes("by numbers", x, kind - 1, 2, 8, 0, 0, 8, 0, 0, 2, 8, 8);
        }
    }

    private static void duePlaces(Counted x, int[] banks, int[] addresses) {
        Due.due("link()", x.link(), 1);
        for (int r = 0; r < banks.length; r++) {
            Due.due("place(" + r + ", 0)", x.place(r, 0), banks[r]);
            Due.due("place(" + r + ", 1)", x.place(r, 1), addresses[r]);
        }
    }

    private static void firstBankWithRoom() {
        Due.sentence("comes to the first BANK in which it has room behind what is there");
        Counted x = new Counted();
        x.limit(SIZE, 10);
        for (int bytes : new int[] {6, 6, 4, 4, 10, 1}) Samples.moduleOf(x, KIND_BANK, bytes);
        duePlaces(x, new int[] {0, 1, 0, 1, 2, 3}, new int[] {256, 256, 262, 262, 256, 256});
        Due.due("count(5)", x.count(5), 4);
        Due.due("count(3)", x.count(3), 0);
    }

    private static void firstNotTheBest() {
        Due.sentence("the first BANK in which it has room (not the one with the least room, the most, or the latest)");
        int[][] bytes = {{5, 8, 2}, {8, 5, 2}, {6, 9, 4}};
        int[] behind = {261, 264, 262};
        for (int k = 0; k < 3; k++) {
            Counted x = new Counted();
            x.limit(SIZE, 10);
            for (int m = 0; m < 3; m++) Samples.moduleOf(x, KIND_BANK, bytes[k][m]);
            duePlaces(x, new int[] {0, 1, 0}, new int[] {256, 256, behind[k]});
        }
    }

    private static void oneByteTooMany() {
        Due.sentence("in which it has room");
        Counted x = new Counted();
        x.limit(SIZE, 10);
        Samples.moduleOf(x, KIND_BANK, 6);
        Samples.moduleOf(x, KIND_COMMON, 30);
        Samples.moduleOf(x, KIND_BANK, 5);
        Samples.moduleOf(x, KIND_BANK, 4);
        duePlaces(x, new int[] {0, NONE, 1, 0}, new int[] {256, 0, 256, 262});
        x.op(3, TELL, 0);
        duePlaces(x, new int[] {0, NONE, 1, 1}, new int[] {256, 0, 256, 261});
        x.op(3, TELL, 0);
        duePlaces(x, new int[] {0, NONE, 1, 2}, new int[] {256, 0, 256, 256});
        x.limit(SIZE, 11);
        duePlaces(x, new int[] {0, NONE, 0, 1}, new int[] {256, 0, 262, 256});
    }

    /** Routine 0 in COMMON, 1 and 2 of two MODULES in BANK 0, 3 in BANK 1; one of them calls one other. */
    private static Counted pair(int from, int to) {
        Counted x = new Counted();
        x.limit(SIZE, 8);
        for (int m = 0; m < 4; m++) x.module(m == 0 ? 0 : 1);
        for (int r = 0; r < 4; r++) x.routine(r, 0);
        for (int r = 0; r < 4; r++) {
            if (r == from) Samples.ops(x, r, CALL, to);
            else Samples.ops(x, r, BACK, 0, BACK, 0, BACK, 0);
        }
        Samples.ops(x, 3, BACK, 0, BACK, 0, BACK, 0, BACK, 0);
        return x;
    }

    private static void nearAndFar() {
        Due.sentence("A CALL is NEAR, if the ROUTINE that is called is in COMMON, or both are in one BANK");
        int[] bank = {NONE, 0, 0, 1};
        int[] address = {0, 256, 260, 256};
        for (int from = 0; from < 4; from++) {
            for (int to = 0; to < 4; to++) {
                if (from == to) continue;
                boolean far = to != 0 && bank[from] != bank[to];
                Counted x = pair(from, to);
                duePlaces(x, bank, address);
                String name = from + " calls " + to + ": ";
                Due.due(name + "FAR CALLS", x.count(7), far ? 1 : 0);
                Due.due(name + "THUNKS", x.count(4), far ? 1 : 0);
                Due.due(name + "bytes of COMMON", x.count(3), far ? 12 : 4);
                Due.due(name + "the THUNK", x.place(to, 2), far ? 4 : NONE);
                Due.due(name + "DEPTH", x.place(from, 4), far ? 3 : 1);
                int at = address[from] % 256;
                Due.due(name + "CALL", x.image(bank[from], at), CALL);
                Due.due(name + "low", x.image(bank[from], at + 1), far ? 4 : address[to] % 256);
                Due.due(name + "high", x.image(bank[from], at + 2), far ? 0 : address[to] / 256);
                Due.due(name + "run", x.run(from, 9, 99), 1);
                Samples.dueTold(name + "run", x, 0, far ? 1 + 3 + 1 + 2 + 1 : 3, 9, 0, far ? 3 : 1, far ? 2 : 0);
            }
        }
    }

    private static void thunksByNumbers() {
        Due.sentence("THUNKS, one for each ROUTINE to which a FAR CALL goes, by numbers, 8 bytes each");
        Counted x = Samples.single(0, 0);
        x.module(1);
        for (int r = 1; r < 6; r++) x.routine(1, 0);
        Samples.ops(x, 0, CALL, 4, CALL, 1, CALL, 4, CALL, 2);
        Samples.ops(x, 5, CALL, 3);
        Due.due("link()", x.link(), 1);
        int[] thunk = {NONE, 13, 21, NONE, 29, NONE};
        for (int r = 0; r < 6; r++) Due.due("place(" + r + ", 2)", x.place(r, 2), thunk[r]);
        Due.due("THUNKS", x.count(4), 3);
        Due.due("FAR CALLS", x.count(7), 4);
        Samples.dueBytes("COMMON", x, NONE, 5, 29, 0, 5, 13, 0, 5, 29, 0, 5, 21, 0, 8,
                9, 10, 0, 5, 0, 1, 11, 8, 9, 10, 0, 5, 1, 1, 11, 8, 9, 10, 0, 5, 3, 1, 11, 8);
        Samples.dueBytes("BANK 0", x, 0, 8, 8, 8, 8, 5, 2, 1, 8);
    }

    private static void thunkBesideNearCall() {
        Due.sentence("to its address; else FAR: to the address of its THUNK");
        Counted x = Samples.single(1, 0);
        x.routine(0, 0);
        x.module(0);
        x.routine(1, 0);
        Samples.ops(x, 1, CALL, 0);
        Samples.ops(x, 2, CALL, 0);
        Due.due("link()", x.link(), 1);
        Samples.dueBytes("NEAR in BANK 0", x, 0, 8, 5, 0, 1, 8);
        Samples.dueBytes("FAR from COMMON", x, NONE, 5, 4, 0, 8, 9, 10, 0, 5, 0, 1, 11, 8);
        Due.due("THUNKS", x.count(4), 1);
        Due.due("FAR CALLS", x.count(7), 1);
        Due.due("DEPTH, NEAR", x.place(1, 4), 1);
        Due.due("DEPTH, FAR", x.place(2, 4), 3);
    }

    private static void thunkOfTheLastBank() {
        Due.sentence("9, 10, its BANK, 5, the low, the high byte of its address, 11, 8");
        Counted x = new Counted();
        x.limit(BANKS, 8);
        x.limit(SIZE, 8);
        for (int m = 0; m < 8; m++) Samples.moduleOf(x, KIND_BANK, m == 7 ? 6 : 8);
        x.module(1);
        x.routine(8, 0);
        Samples.ops(x, 8, TELL, 0);
        x.module(0);
        x.routine(9, 0);
        Samples.ops(x, 9, CALL, 7, CALL, 0, CALL, 8);
        Due.due("link()", x.link(), 1);
        Due.due("BANK of 8", x.place(8, 0), 7);
        Due.due("BANKS with bytes", x.count(5), 8);
        Due.due("THUNKS", x.count(4), 3);
        Samples.dueBytes("COMMON", x, NONE, 5, 18, 0, 5, 10, 0, 5, 26, 0, 8,
                9, 10, 0, 5, 0, 1, 11, 8, 9, 10, 7, 5, 0, 1, 11, 8, 9, 10, 7, 5, 6, 1, 11, 8);
        Samples.dueBytes("BANK 7", x, 7, 0, 0, 0, 0, 2, 8, 2, 8);
        Due.due("run", x.run(9, 5, 99), 1);
        Samples.dueOut("run", x, 0, 0, 0, 0);
    }

    private static void greatestAddress() {
        Due.sentence("of CALL the low, the high byte of an address");
        for (int kind = 0; kind < 2; kind++) {
            Counted x = new Counted();
            x.limit(SIZE, 250);
            x.limit(COMMON, 250);
            Samples.moduleOf(x, kind, 246);
            x.module(kind);
            x.routine(1, 0);
            x.op(3, CALL, 4);
            Due.due("link()", x.link(), 1);
            Due.due("place(3, 1)", x.place(3, 1), kind * 256 + 243);
            Due.due("place(4, 1)", x.place(4, 1), kind * 256 + 249);
            int[] due = {0, 0, 5, 249, kind, 8, 8, NONE};
            for (int k = 0; k < due.length; k++) Due.due("byte " + (243 + k), x.image(kind - 1, 243 + k), due[k]);
            Due.due("run(3, 1, 4)", x.run(3, 1, 4), 1);
            Samples.dueTold("run", x, 0, 4, 0, 0, 1, 0);
        }
    }

    private static void dueBases(Counted x, int... bases) {
        Due.due("link()", x.link(), 1);
        for (int r = 0; r < bases.length; r++) Due.due("BASE of " + r, x.place(r, 3), bases[r]);
    }

    private static void baseOfOneNotCalled() {
        Due.sentence("BASE of a ROUTINE: 0; if it is called somewhere, the greatest");
        Counted x = Samples.single(0, 9);
        x.routine(0, 9);
        dueBases(x, 0, 0);
        Due.due("cells laid over one another", x.count(6), 9);
        x.op(0, CALL, 1);
        dueBases(x, 0, 9);
        Due.due("cells behind one another", x.count(6), 18);
        x.drop(0);
        dueBases(x, 0, 0);
    }

    private static void greatestOfTheCallers() {
        Due.sentence("the greatest of BASE and LOCALS, added, of those that call it");
        for (int turn = 0; turn < 3; turn++) {
            int[] locals = {2, 5, 3};
            Counted x = new Counted();
            x.module(0);
            x.module(1);
            for (int k = 0; k < 3; k++) x.routine((k + turn) % 2, locals[(k + turn) % 3]);
            x.routine(1, 9);
            for (int k = 0; k < 3; k++) Samples.ops(x, k, CALL, 3, CALL, 3);
            dueBases(x, 0, 0, 0, 5);
            Due.due("count(6)", x.count(6), 14);
        }
        Counted x = Samples.single(0, 4);
        x.routine(0, 1);
        x.routine(0, 1);
        Samples.ops(x, 0, CALL, 1);
        Samples.ops(x, 1, CALL, 2);
        Samples.ops(x, 0, CALL, 2);
        dueBases(x, 0, 4, 5);
    }

    private static void baseThroughOneWithoutLocals() {
        Due.sentence("BASE and LOCALS, added (of one without LOCALS)");
        Counted x = Samples.single(0, 0);
        x.routine(0, 4);
        x.routine(0, 3);
        Samples.ops(x, 1, CALL, 0);
        Samples.ops(x, 0, CALL, 2);
        dueBases(x, 4, 0, 4);
        Due.due("count(6)", x.count(6), 7);
    }

    private static void dueDepths(Counted x, int... depths) {
        Due.due("link()", x.link(), 1);
        for (int r = 0; r < depths.length; r++) Due.due("DEPTH of " + r, x.place(r, 4), depths[r]);
    }

    private static void depthOfOneThatCallsNothing() {
        Due.sentence("DEPTH: 0; if it calls, the greatest of DEPTH of what it calls and 1 (NEAR) or 3 (FAR), added");
        Counted x = Samples.single(0, 3);
        x.routine(0, 0);
        x.module(1);
        x.routine(1, 0);
        dueDepths(x, 0, 0, 0);
        x.op(0, CALL, 1);
        dueDepths(x, 1, 0, 0);
        x.op(1, CALL, 2);
        dueDepths(x, 4, 3, 0);
        x.drop(1);
        x.drop(0);
        dueDepths(x, 0, 0, 0);
    }

    private static void greatestOfTheCalled() {
        Due.sentence("the greatest of DEPTH of what it calls");
        for (int turn = 0; turn < 2; turn++) {
            Counted x = Samples.single(0, 0);
            x.module(1);
            for (int r = 1; r < 4; r++) x.routine(0, 0);
            x.routine(1, 0);
            Samples.ops(x, 1, CALL, 2);
            Samples.ops(x, 0, CALL, turn == 0 ? 1 : 4, CALL, turn == 0 ? 4 : 1);
            dueDepths(x, 3, 1, 0, 0, 0);
            Samples.ops(x, 2, CALL, 3);
            dueDepths(x, 3, 2, 1, 0, 0);
            Samples.ops(x, 3, CALL, 4);
            dueDepths(x, 6, 5, 4, 3, 0);
        }
    }

    private static void chainsOfAll() {
        Due.sentence("BASE and DEPTH (through all 30 ROUTINES, up and down their numbers)");
        for (int down = 0; down < 2; down++) {
            Counted x = Samples.single(0, 2);
            x.limit(STACK, 60);
            x.limit(CELLS, 64);
            x.limit(COMMON, 250);
            for (int r = 1; r < 30; r++) x.routine(0, 2);
            for (int r = 1; r < 30; r++) x.op(down == 1 ? r : r - 1, CALL, down == 1 ? r - 1 : r);
            Due.due("link()", x.link(), 1);
            for (int k = 0; k < 30; k++) {
                int r = down == 1 ? 29 - k : k;
                Due.due("BASE of " + r, x.place(r, 3), 2 * k);
                Due.due("DEPTH of " + r, x.place(r, 4), 29 - k);
            }
            Due.due("count(6)", x.count(6), 60);
        }
    }

    private static void callsBehindABack() {
        Due.sentence("called somewhere");
        Counted x = Samples.single(0, 7);
        x.module(1);
        x.routine(1, 1);
        Samples.ops(x, 0, BACK, 0, CALL, 1);
        dueBases(x, 0, 7);
        dueDepths(x, 3, 0);
        Due.due("FAR CALLS", x.count(7), 1);
        Due.due("THUNKS", x.count(4), 1);
        Due.due("leads(0, 1)", x.leads(0, 1), 1);
    }

    private static void imageRefused() {
        Due.sentence("Byte i of a BANK, of COMMON (NONE). BAD: the BANK; STATE");
        Counted x = Samples.single(0, 0);
        for (int linked = 0; linked < 2; linked++) {
            Due.due("image(-2, 0)", x.image(-2, 0), BAD);
            Due.due("image(4, 0)", x.image(4, 0), BAD);
            Due.due("image(4, -1)", x.image(4, -1), BAD);
            for (int wild : WILD) Due.due("image(" + wild + ", 0)", x.image(wild, 0), BAD);
            Due.due("image(-1, 0)", x.image(-1, 0), linked == 0 ? STATE : 8);
            Due.due("image(3, 0)", x.image(3, 0), linked == 0 ? STATE : NONE);
            Due.due("image(-1, 250)", x.image(-1, 250), linked == 0 ? STATE : NONE);
            Due.due("link()", x.link(), 1);
        }
    }

    private static void imageOfSoManyBanks() {
        Due.sentence("BANKS 1 to 8 (of image)");
        for (int banks = 1; banks <= 8; banks++) {
            Counted x = new Counted();
            x.limit(BANKS, banks);
            Due.due("the last, no IMAGE", x.image(banks - 1, 0), STATE);
            Due.due("one more, no IMAGE", x.image(banks, 0), BAD);
            x.link();
            Due.due("the last", x.image(banks - 1, 0), NONE);
            Due.due("one more", x.image(banks, 0), BAD);
        }
    }

    private static void lastByte() {
        Due.sentence("NONE: there are not so many");
        for (int bytes : new int[] {1, 100, 250}) {
            for (int kind = 0; kind < 2; kind++) {
                Counted x = new Counted();
                x.limit(SIZE, 250);
                x.limit(COMMON, 250);
                Samples.moduleOf(x, kind, bytes);
                Due.due("link()", x.link(), 1);
                Due.due("the last of " + bytes, x.image(kind - 1, bytes - 1), 8);
                Due.due("one more than " + bytes, x.image(kind - 1, bytes), NONE);
                Due.due("the other one has none", x.image(-kind, 0), NONE);
                Due.due("below the first", x.image(kind - 1, -1), NONE);
                for (int wild : WILD) Due.due("byte " + wild, x.image(kind - 1, wild), NONE);
            }
        }
    }

    private static void cellsInTheBytes() {
        Due.sentence("CLEAR: 12, its BASE, how many .. of LOAD, STORE BASE and v added");
        Counted x = new Counted();
        x.module(0);
        x.module(1);
        x.limit(CELLS, 64);
        int[] locals = {9, 9, 9, 9, 9, 9, 1, 9};
        for (int r = 0; r < 8; r++) x.routine(r == 7 ? 1 : 0, locals[r]);
        for (int r = 0; r < 7; r++) x.op(r, CALL, r + 1);
        Samples.ops(x, 7, LOAD, 0, STORE, 8, STORE, 0, LOAD, 8);
        Due.due("link()", x.link(), 1);
        Samples.dueBytes("BASE 55", x, 0, 12, 55, 9, 3, 55, 4, 63, 4, 55, 3, 63, 8);
        int[] first = {12, 0, 9, 5, 7, 0, 8, 12, 9, 9};
        for (int i = 0; i < first.length; i++) Due.due("byte " + i + " of COMMON", x.image(NONE, i), first[i]);
        int[] ofSix = {12, 54, 1};
        for (int i = 0; i < 3; i++) Due.due("byte " + i + " of 6", x.image(NONE, x.place(6, 1) + i), ofSix[i]);
    }

    private static void numbersInTheBytes() {
        Due.sentence("its OPS: the OP, then v");
        Counted x = Samples.single(1, 0);
        Samples.ops(x, 0, SET, 0, SET, 255, ADD, 0, ADD, 255, TELL, -7, BACK, 99);
        Due.due("link()", x.link(), 1);
        Samples.dueBytes("numbers", x, 0, 0, 0, 0, 255, 1, 0, 1, 255, 2, 8, 8);
    }

    private static void jumpsInTheBytes() {
        Due.sentence("of IF, GOTO by how much the first byte of OP v is behind that of the next OP, modulo 256");
        for (int code = IF; code <= GOTO; code++) {
            Counted x = Samples.single(0, 1);
            Samples.ops(x, 0, code, 0, code, 1, code, 2, TELL, 0, code, 3, code, 6, code, 7, code, 8);
            Due.due("link()", x.link(), 1);
            Samples.dueBytes("short ones", x, NONE, 12, 0, 1,
                    code, 254, code, 254, code, 254, 2, code, 253, code, 0, code, 0, code, 0, 8);
            x = Samples.single(0, 0);
            x.routine(0, 9);
            x.op(1, code, 40);
            for (int i = 0; i < 39; i++) x.op(1, CALL, 0);
            Due.due("link()", x.link(), 1);
            Due.due("the farthest on", x.image(NONE, 1 + 3 + 1), 117);
            x = Samples.single(0, 0);
            x.routine(0, 9);
            for (int i = 0; i < 39; i++) x.op(1, CALL, 0);
            x.op(1, code, 0);
            Due.due("link()", x.link(), 1);
            Due.due("the farthest back", x.image(NONE, 1 + 3 + 117 + 1), 256 - 119);
        }
    }

    private static void backBehindABack() {
        Due.sentence("Behind the last OP of a ROUTINE, as one more, there is a BACK .. then 8");
        Counted x = Samples.single(1, 0);
        Due.due("link()", x.link(), 1);
        Samples.dueBytes("no OPS", x, 0, 8);
        x.op(0, BACK, 0);
        Due.due("link()", x.link(), 1);
        Samples.dueBytes("a BACK", x, 0, 8, 8);
        Due.due("count(2)", x.count(2), 1);
    }

    private static void countRefused() {
        Due.sentence("How many: 0 .. 7. BAD; STATE: of 3 to 7");
        Counted x = Samples.single(0, 0);
        for (int linked = 0; linked < 2; linked++) {
            Due.due("count(-1)", x.count(-1), BAD);
            Due.due("count(8)", x.count(8), BAD);
            for (int wild : WILD) Due.due("count(" + wild + ")", x.count(wild), BAD);
            int[] due = {1, 1, 0, 1, 0, 0, 0, 0};
            for (int what = 0; what < 8; what++) {
                Due.due("count(" + what + ")", x.count(what), what > 2 && linked == 0 ? STATE : due[what]);
            }
            Due.due("link()", x.link(), 1);
        }
    }

    private static void countOfOps() {
        Due.sentence("2 OPS of all");
        Counted x = new Counted();
        Due.due("none", x.count(2), 0);
        x.module(0);
        for (int r = 0; r < 3; r++) x.routine(0, 0);
        Due.due("the last BACK is not counted", x.count(2), 0);
        for (int i = 0; i < 40; i++) x.op(0, TELL, 0);
        for (int i = 0; i < 40; i++) x.op(2, TELL, 0);
        Due.due("80", x.count(2), 80);
        x.op(2, TELL, 0);
        Due.due("refused", x.count(2), 80);
        x.drop(2);
        Due.due("dropped", x.count(2), 79);
        x.drop(1);
        Due.due("none to drop", x.count(2), 79);
    }

    private static void countOfCells() {
        Due.sentence("6 the greatest number of CELLS that is needed");
        Counted x = Samples.single(0, 3);
        x.routine(0, 9);
        x.routine(0, 2);
        x.link();
        Due.due("of three not called", x.count(6), 9);
        x.op(0, CALL, 2);
        x.link();
        Due.due("5 is less than 9", x.count(6), 9);
        x.op(1, CALL, 2);
        x.link();
        Due.due("2 behind 9", x.count(6), 11);
        x.limit(CELLS, 64);
        x.link();
        Due.due("needed, not the LIMIT", x.count(6), 11);
        x.drop(1);
        x.link();
        Due.due("not called any more", x.count(6), 9);
        x = Samples.single(0, 4);
        x.link();
        Due.due("of routine 0", x.count(6), 4);
        x.routine(0, 3);
        x.link();
        Due.due("of routine 0, not of the last", x.count(6), 4);
    }

    private static void countOfFarCalls() {
        Due.sentence("4 THUNKS, 7 FAR CALLS");
        Counted x = Samples.single(0, 0);
        x.module(1);
        x.routine(1, 0);
        for (int i = 0; i < 40; i++) x.op(0, CALL, 1);
        x.link();
        Due.due("FAR CALLS", x.count(7), 40);
        Due.due("THUNKS", x.count(4), 1);
        x.routine(0, 0);
        x.op(2, CALL, 1);
        x.op(2, CALL, 0);
        x.link();
        Due.due("FAR CALLS of both", x.count(7), 41);
        Due.due("THUNKS of both", x.count(4), 1);
        while (x.drop(0) > 0) Due.due("no IMAGE", x.count(7), STATE);
        x.drop(2);
        x.drop(2);
        x.link();
        Due.due("no FAR CALLS any more", x.count(7), 0);
        Due.due("no THUNKS any more", x.count(4), 0);
        Due.due("bytes of COMMON", x.count(3), 2);
    }

    private static void countOfBanks() {
        Due.sentence("5 BANKS with bytes in them");
        Counted x = new Counted();
        x.limit(SIZE, 8);
        for (int m = 0; m < 4; m++) {
            x.link();
            Due.due("BANKS with bytes", x.count(5), m);
            Samples.moduleOf(x, KIND_BANK, 8);
            x.module(1);
        }
        Samples.moduleOf(x, KIND_COMMON, 8);
        x.link();
        Due.due("COMMON is no BANK", x.count(5), 4);
    }

    private static void leadsRefused() {
        Due.sentence("Whether CALLS lead from one ROUTINE to another one. BAD");
        Counted x = Samples.single(0, 0);
        x.routine(0, 0);
        Due.due("leads(-1, 0)", x.leads(-1, 0), BAD);
        Due.due("leads(0, -1)", x.leads(0, -1), BAD);
        Due.due("leads(2, 0)", x.leads(2, 0), BAD);
        Due.due("leads(0, 2)", x.leads(0, 2), BAD);
        for (int wild : WILD) {
            Due.due("leads(" + wild + ", 0)", x.leads(wild, 0), BAD);
            Due.due("leads(0, " + wild + ")", x.leads(0, wild), BAD);
        }
        Due.due("leads(0, 1), no IMAGE", x.leads(0, 1), 0);
        x.op(0, CALL, 1);
        Due.due("leads(0, 1), no IMAGE", x.leads(0, 1), 1);
    }

    private static void leadsToItself() {
        Due.sentence("(or from it to itself)");
        Counted x = Samples.single(0, 0);
        for (int r = 1; r < 4; r++) x.routine(0, 0);
        for (int r = 0; r < 4; r++) Due.due("no CALLS: " + r, x.leads(r, r), 0);
        x.op(3, CALL, 3);
        x.op(0, CALL, 3);
        x.op(1, CALL, 2);
        x.op(2, CALL, 1);
        int[] itself = {0, 1, 1, 1};
        for (int r = 0; r < 4; r++) Due.due("leads(" + r + ", " + r + ")", x.leads(r, r), itself[r]);
        Due.due("link()", x.link(), 0);
        for (int r = 0; r < 4; r++) Due.due("behind a FAULT: " + r, x.leads(r, r), itself[r]);
    }

    private static void leadsOneWay() {
        Due.sentence("CALLS lead from one ROUTINE to another one");
        for (int down = 0; down < 2; down++) {
            Counted x = new Counted();
            x.module(1);
            for (int r = 0; r < 30; r++) x.routine(0, 0);
            for (int r = 1; r < 30; r++) x.op(down == 1 ? r : r - 1, CALL, down == 1 ? r - 1 : r);
            Due.due("from end to end", x.leads(29 * down, 29 - 29 * down), 1);
            Due.due("not back", x.leads(29 - 29 * down, 29 * down), 0);
            Due.due("the next", x.leads(15, down == 1 ? 14 : 16), 1);
            Due.due("the one before", x.leads(15, down == 1 ? 16 : 14), 0);
            Due.due("itself", x.leads(15, 15), 0);
            x.op(29 - 29 * down, CALL, 15);
            Due.due("itself, in a loop", x.leads(15, 15), 1);
            Due.due("before the loop", x.leads(29 * down, 29 * down), 0);
        }
    }

    private static void leadsAsItIsNow() {
        Due.sentence("lead (as it is now, linked or not)");
        Counted x = Samples.single(0, 0);
        for (int r = 1; r < 3; r++) x.routine(0, 0);
        x.op(0, CALL, 1);
        x.op(1, CALL, 2);
        x.link();
        Due.due("leads(0, 2)", x.leads(0, 2), 1);
        Due.due("the IMAGE stays", x.place(0, 4), 2);
        x.drop(1);
        Due.due("leads(0, 2), dropped", x.leads(0, 2), 0);
        Due.due("leads(0, 1)", x.leads(0, 1), 1);
        x.op(0, CALL, 2);
        Due.due("leads(0, 2), told again", x.leads(0, 2), 1);
    }

    private static void imageOfTheLatest() {
        Due.sentence("there is an IMAGE (of the latest link() alone)");
        Counted x = Samples.chain();
        x.link();
        Due.due("image(1, 6)", x.image(1, 6), 8);
        Due.due("image(-1, 49)", x.image(NONE, 49), 8);
        x.limit(SIZE, 100);
        x.link();
        Due.due("BANK 1 has none any more", x.image(1, 0), NONE);
        Due.due("bytes of BANK 0", x.image(0, 21), 8);
        Due.due("no more of BANK 0", x.image(0, 22), NONE);
        Due.due("one THUNK less", x.image(NONE, 42), NONE);
        Due.due("the last of COMMON", x.image(NONE, 41), 8);
        Due.due("no THUNK of 2", x.place(2, 2), NONE);
        Due.due("BANK of 2", x.place(2, 0), 0);
        Due.due("DEPTH of 0", x.place(0, 4), 5);
    }
}
