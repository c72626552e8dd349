/**
 * A BankLinker whose calls are counted: the document promises nothing behind the 512th call of an
 * object, so a test that asks more of one would test what is free.
 */
final class Counted {
    private static final int MOST_CALLS = 512;

    private final BankLinker x = new BankLinker();
    private int calls = 0;

    private BankLinker next() {
        calls++;
        if (calls == MOST_CALLS + 1) Due.due("a test asks one object too much: calls", calls, MOST_CALLS);
        return x;
    }

    int callsLeft() { return MOST_CALLS - calls; }

    int module(int kind) { return next().module(kind); }
    int routine(int module, int locals) { return next().routine(module, locals); }
    int op(int routine, int op, int v) { return next().op(routine, op, v); }
    int drop(int routine) { return next().drop(routine); }
    int limit(int what, int v) { return next().limit(what, v); }
    int link() { return next().link(); }
    int fault(int what) { return next().fault(what); }
    int place(int routine, int what) { return next().place(routine, what); }
    int image(int bank, int i) { return next().image(bank, i); }
    int count(int what) { return next().count(what); }
    int leads(int from, int to) { return next().leads(from, to); }
    int run(int routine, int a, int n) { return next().run(routine, a, n); }
    int flat(int routine, int a, int n) { return next().flat(routine, a, n); }
    int out(int which, int i) { return next().out(which, i); }
    int told(int which, int what) { return next().told(which, what); }
}
