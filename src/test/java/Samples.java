/** Programs that several tests use; what is due of them was worked out by hand from the document. */
final class Samples {
    static final int SET = 0, ADD = 1, TELL = 2, LOAD = 3, STORE = 4, CALL = 5, IF = 6, GOTO = 7, BACK = 8;
    static final int BANKS = 0, SIZE = 1, COMMON = 2, STACK = 3, CELLS = 4;
    static final int NONE = -1, BAD = -2, STATE = -3, FULL = -4, SPENT = -5;
    static final int[] WILD = {Integer.MIN_VALUE, -1000, -2, Integer.MAX_VALUE, 100000};

    private Samples() { }

    /** One module of a kind and one routine with some locals and no ops. */
    static BankLinker single(int kind, int locals) {
        BankLinker x = new BankLinker();
        Due.due("module", x.module(kind), 0);
        Due.due("routine", x.routine(0, locals), 0);
        return x;
    }

    /** A chain of calls through COMMON and two banks; routine 1 is the first of it. */
    static BankLinker chain() {
        BankLinker x = new BankLinker();
        x.module(1);
        x.module(0);
        x.module(1);
        x.routine(0, 2);
        x.routine(1, 1);
        x.routine(2, 0);
        x.routine(1, 3);
        x.routine(0, 0);
        ops(x, 0, STORE, 1, CALL, 2, LOAD, 1, TELL, 0);
        ops(x, 1, STORE, 0, IF, 6, CALL, 0, LOAD, 0, ADD, 255, GOTO, 0);
        ops(x, 2, ADD, 1, CALL, 3, TELL, 0);
        ops(x, 3, STORE, 2, CALL, 4);
        ops(x, 4, TELL, 0, BACK, 0);
        x.limit(SIZE, 16);
        return x;
    }

    static void ops(BankLinker x, int routine, int... codesAndValues) {
        for (int i = 0; i < codesAndValues.length; i += 2) {
            int now = x.op(routine, codesAndValues[i], codesAndValues[i + 1]);
            if (now <= 0) Due.due("op of routine " + routine + ", " + i / 2, now, 1);
        }
    }

    static void dueFault(String name, BankLinker x, int number, int at, int op) {
        Due.due(name + ": link()", x.link(), number == 0 ? 1 : 0);
        Due.due(name + ": fault(0)", x.fault(0), number);
        Due.due(name + ": fault(1)", x.fault(1), at);
        Due.due(name + ": fault(2)", x.fault(2), op);
        Due.due(name + ": count(3)", x.count(3) == STATE ? 1 : 0, number == 0 ? 0 : 1);
    }

    static void dueBytes(String name, BankLinker x, int bank, int... bytes) {
        for (int i = 0; i < bytes.length; i++) {
            Due.due(name + ": image(" + bank + ", " + i + ")", x.image(bank, i), bytes[i]);
        }
        Due.due(name + ": image(" + bank + ", " + bytes.length + ")", x.image(bank, bytes.length), NONE);
    }

    static void dueTold(String name, BankLinker x, int which, int... told) {
        for (int what = 0; what < told.length; what++) {
            Due.due(name + ": told(" + which + ", " + what + ")", x.told(which, what), told[what]);
        }
    }

    static void dueOut(String name, BankLinker x, int which, int... numbers) {
        for (int i = 0; i < numbers.length; i++) {
            Due.due(name + ": out(" + which + ", " + i + ")", x.out(which, i), numbers[i]);
        }
        Due.due(name + ": out behind the last", x.out(which, numbers.length), NONE);
    }
}
