/** Programs that several tests use; what is due of them was worked out by hand from the document. */
final class Samples implements Codes {
    private Samples() { }

    /** One module of a kind and one routine with some locals and no ops. */
    static Counted single(int kind, int locals) {
        Counted x = new Counted();
        Due.due("module", x.module(kind), 0);
        Due.due("routine", x.routine(0, locals), 0);
        return x;
    }

    /** A chain of calls through COMMON and two banks; routine 1 is the first of it. */
    static Counted chain() {
        Counted x = new Counted();
        x.module(1);
        x.module(0);
        x.module(1);
        x.routine(0, 2);
        x.routine(1, 1);
        x.routine(2, 0);
        x.routine(1, 3);
        x.routine(0, 0);
        ops(x, 0, STORE, 1, CALL, 2, LOAD, 1, TELL, 0);
        ops(x, 1, STORE, 0, IF, 6, CALL, 0, LOAD, 0, ADD, 255, GOTO, 0);
        ops(x, 2, ADD, 1, CALL, 3, TELL, 0);
        ops(x, 3, STORE, 2, CALL, 4);
        ops(x, 4, TELL, 0, BACK, 0);
        x.limit(SIZE, 16);
        return x;
    }

    static void ops(Counted x, int routine, int... codesAndValues) {
        for (int i = 0; i < codesAndValues.length; i += 2) {
            int now = x.op(routine, codesAndValues[i], codesAndValues[i + 1]);
            if (now <= 0) Due.due("op of routine " + routine + ", " + i / 2, now, 1);
        }
    }

    /** Ops of 2 bytes and at most one of 1, until a routine has so many bytes with its last BACK. */
    static void fillTo(Counted x, int routine, int now, int bytes) {
        int left = bytes - now;
        for (; left >= 2; left -= 2) ops(x, routine, SET, 0);
        if (left == 1) ops(x, routine, TELL, 0);
    }

    /** A module of a kind with so many bytes, in routines without locals of up to 81: the module's number. */
    static int moduleOf(Counted x, int kind, int bytes) {
        int module = x.module(kind);
        for (int left = bytes; left > 0; left -= 81) fillTo(x, x.routine(module, 0), 1, Math.min(left, 81));
        return module;
    }

    /** That nothing is to be had of an image. */
    static void dueNoImage(String name, Counted x) {
        for (int what = 3; what < 8; what++) Due.due(name + ": count(" + what + ")", x.count(what), STATE);
        for (int what = 0; what < 6; what++) Due.due(name + ": place(0, " + what + ")", x.place(0, what), STATE);
        Due.due(name + ": image(-1, 0)", x.image(NONE, 0), STATE);
        Due.due(name + ": image(0, 0)", x.image(0, 0), STATE);
        Due.due(name + ": run(0, 0, 1)", x.run(0, 0, 1), STATE);
    }

    static void dueFault(String name, Counted x, int number, int at, int op) {
        Due.due(name + ": link()", x.link(), number == 0 ? 1 : 0);
        Due.due(name + ": fault(0)", x.fault(0), number);
        Due.due(name + ": fault(1)", x.fault(1), at);
        Due.due(name + ": fault(2)", x.fault(2), op);
        Due.due(name + ": count(3)", x.count(3) == STATE ? 1 : 0, number == 0 ? 0 : 1);
    }

    static void dueBytes(String name, Counted x, int bank, int... bytes) {
        for (int i = 0; i < bytes.length; i++) {
            Due.due(name + ": image(" + bank + ", " + i + ")", x.image(bank, i), bytes[i]);
        }
        Due.due(name + ": image(" + bank + ", " + bytes.length + ")", x.image(bank, bytes.length), NONE);
    }

    static void dueTold(String name, Counted x, int which, int... told) {
        for (int what = 0; what < told.length; what++) {
            Due.due(name + ": told(" + which + ", " + what + ")", x.told(which, what), told[what]);
        }
    }

    static void dueOut(String name, Counted x, int which, int... numbers) {
        for (int i = 0; i < numbers.length; i++) {
            Due.due(name + ": out(" + which + ", " + i + ")", x.out(which, i), numbers[i]);
        }
        Due.due(name + ": out behind the last", x.out(which, numbers.length), NONE);
    }
}
