import java.util.Random;

/** Random programs and calls: each answer of BankLinker is compared with that of Model. */
public final class AgainstModelTest {
    private static final int OBJECTS = 12000;
    /** No action below makes more calls than this. */
    private static final int MOST_CALLS_OF_AN_ACTION = 100;
    /** CALL and TELL more often than what ends a routine or goes around in it. */
    private static final int[] MANY_OF_EACH = {0, 0, 1, 1, 1, 2, 2, 2, 3, 3, 4, 4, 5, 5, 5, 5, 6, 6, 7, 8};

    private final Random random;
    private final int seed;
    private final Counted x = new Counted();
    private final Model model = new Model();
    /** Greater: more routines, more ops, more calls that are refused. */
    private final int size;
    private final boolean loops;

    private static final int[] faultsSeen = new int[8];
    private static int runsDone = 0, runsSpent = 0, flatsAstray = 0, farRuns = 0, agreed = 0;

    private AgainstModelTest(int seed) {
        this.seed = seed;
        random = new Random(seed);
        size = 1 + random.nextInt(4);
        loops = random.nextInt(4) == 0;
    }

    public static void main(String[] args) {
        for (int seed = 0; seed < OBJECTS; seed++) new AgainstModelTest(seed).play();
        for (int f = 0; f < 8; f++) Due.due("fault " + f + " was seen", faultsSeen[f] > 20 ? 1 : 0, 1);
        System.out.println("done " + runsDone + ", spent " + runsSpent + ", astray " + flatsAstray + ", switching " + farRuns
                + ", links by fault " + java.util.Arrays.toString(faultsSeen));
        Due.due("runs were done", runsDone > 1000 ? 1 : 0, 1);
        Due.due("runs were spent", runsSpent > 100 ? 1 : 0, 1);
        Due.due("flat runs went astray", flatsAstray > 20 ? 1 : 0, 1);
        Due.due("runs switched banks", farRuns > 300 ? 1 : 0, 1);
        Due.due("runs were compared with flat runs", agreed > 1000 ? 1 : 0, 1);
        Due.finish();
    }

    private void play() {
        int modules = 1 + random.nextInt(size * 3);
        for (int m = 0; m < modules; m++) module(random.nextInt(3) == 0 ? 0 : 1);
        int routines = 1 + random.nextInt(size * 7);
        for (int r = 0; r < routines; r++) routine(random.nextInt(modules), Math.max(0, random.nextInt(8) - 3));
        if (random.nextBoolean()) setLimits();
        int ops = random.nextInt(60 * size);
        for (int i = 0; i < ops; i++) randomOp();
        link();
        while (x.callsLeft() >= MOST_CALLS_OF_AN_ACTION) {
            switch (random.nextInt(14)) {
                case 0: module(random.nextInt(4) - 1); break;
                case 1: routine(random.nextInt(14) - 1, random.nextInt(12) - 1); break;
                case 2: case 3: randomOp(); break;
                case 4: drop(someRoutine()); break;
                case 5: wildCall(); break;
                case 6: case 7: link(); look(); break;
                case 8: dropFault(); break;
                case 9: if (random.nextInt(4) == 0) setLimits(); break;
                case 10: bothRuns(); break;
                case 11: run(someRoutine(), random.nextInt(256), 1 + random.nextInt(300)); break;
                case 12: flat(someRoutine(), random.nextInt(256), 1 + random.nextInt(300)); break;
                default: lookAtRuns(); break;
            }
        }
        while (x.callsLeft() > 0) lastCall();
    }

    /** One call at a time, so that the 512th is asked, too. */
    private void lastCall() {
        switch (random.nextInt(6)) {
            case 0: link(); break;
            case 1: place(someRoutine(), random.nextInt(6)); break;
            case 2: image(random.nextInt(3) - 1, random.nextInt(60)); break;
            case 3: randomOp(); break;
            case 4: run(someRoutine(), random.nextInt(256), 1 + random.nextInt(300)); break;
            default: flat(someRoutine(), random.nextInt(256), 1 + random.nextInt(300)); break;
        }
    }

    private int someRoutine() {
        return model.routines.isEmpty() ? 0 : random.nextInt(model.routines.size());
    }

    private void setLimits() {
        limit(0, 1 + random.nextInt(8));
        limit(1, random.nextInt(3) == 0 ? 8 + random.nextInt(60) : 100 + random.nextInt(151));
        limit(2, random.nextInt(4) == 0 ? 8 + random.nextInt(243) : 250);
        limit(3, random.nextInt(4) == 0 ? 1 + random.nextInt(12) : 60);
        limit(4, random.nextInt(4) == 0 ? random.nextInt(20) : 64);
    }

    private void randomOp() {
        int r = someRoutine();
        if (model.routines.isEmpty()) return;
        Model.Routine it = model.routines.get(r);
        int code = MANY_OF_EACH[random.nextInt(MANY_OF_EACH.length)];
        int v = random.nextInt(256);
        if (code == 3 || code == 4) v = random.nextInt(it.locals + (random.nextInt(20) == 0 ? 1 : 0) + (it.locals == 0 ? 1 : 0));
        if (code == 5) v = loops && random.nextInt(3) == 0 || r == 0 ? random.nextInt(model.routines.size()) : random.nextInt(r);
        if (code == 5 && !loops && r == 0) code = 2;
        if (code == 6 || code == 7) v = random.nextInt(60) == 0 ? random.nextInt(43) : random.nextInt(it.ops.size() + 2);
        op(r, code, v);
    }

    /** Mends what a link() found, so that images come of many programs. */
    private void dropFault() {
        if (model.fault(0) == 1) {
            int r = model.fault(1);
            if (random.nextBoolean()) op(r, 2, 0);
            else while (!model.routines.get(r).ops.isEmpty() && model.routines.get(r).ops.size() > model.fault(2)) drop(r);
        } else if (model.fault(0) == 2) {
            while (!model.routines.get(model.fault(1)).ops.isEmpty()) drop(model.fault(1));
        } else if (model.fault(0) > 0) {
            limit(0, 8);
            limit(1, 250);
            limit(2, 250);
            limit(3, 60);
            limit(4, 64);
        }
        link();
    }

    private int wild() {
        switch (random.nextInt(6)) {
            case 0: return random.nextInt();
            case 1: return Integer.MIN_VALUE;
            case 2: return Integer.MAX_VALUE;
            case 3: return -1 - random.nextInt(3);
            case 4: return random.nextInt(300);
            default: return random.nextInt(10);
        }
    }

    private void wildCall() {
        int p = wild(), q = wild(), s = wild();
        if (random.nextInt(8) == 0) limit(p, q);
        if (random.nextInt(8) == 0) op(p, q, s);
        fault(p);
        place(p, q);
        image(p, q);
        same("count", x.count(p), model.count(p), p, 0, 0);
        leads(p, q);
        run(p, q, s);
        flat(p, q, s);
        out(p, q);
        same("told", x.told(p, q), model.told(p, q), p, q, 0);
    }

    private void look() {
        for (int what = 0; what < 3; what++) fault(what);
        for (int what = 0; what < 8; what++) same("count", x.count(what), model.count(what), what, 0, 0);
        for (int k = 0; k < 20; k++) place(someRoutine(), random.nextInt(6));
        for (int k = 0; k < 5; k++) leads(someRoutine(), someRoutine());
        for (int b = -1; b < 8; b++) {
            int bytes = 0;
            while (model.image(b, bytes) >= 0) bytes++;
            image(b, bytes);
            if (bytes > 0) image(b, bytes - 1);
            for (int k = 0; k < 5 && bytes > 0; k++) image(b, random.nextInt(bytes));
        }
    }

    private void lookAtRuns() {
        for (int which = 0; which < 2; which++) {
            for (int what = 0; what < 5; what++) same("told", x.told(which, what), model.told(which, what), which, what, 0);
            int kept = Math.min(100, model.told(which, 2));
            out(which, kept);
            for (int k = 0; k < 5 && kept > 0; k++) out(which, random.nextInt(kept));
        }
    }

    /** A run that is done tells what the flat run tells, and stays within the depth that was told. */
    private void bothRuns() {
        int r = someRoutine();
        int a = random.nextInt(256);
        int came = run(r, a, 3000);
        int cameFlat = flat(r, a, 3000);
        lookAtRuns();
        if (came == 1) runsDone++;
        if (came == BankLinker.SPENT) runsSpent++;
        if (cameFlat == 0) flatsAstray++;
        if (came != 1) return;
        agreed++;
        if (x.told(0, 4) > 0) farRuns++;
        same("flat is done, too", cameFlat, 1, r, a, 0);
        same("A", x.told(0, 1), x.told(1, 1), r, a, 0);
        same("how many", x.told(0, 2), x.told(1, 2), r, a, 0);
        int kept = Math.min(100, x.told(0, 2));
        for (int k = 0; k < 9 && kept > 0; k++) {
            int i = random.nextInt(kept);
            same("number", x.out(0, i), x.out(1, i), r, a, i);
        }
        same("depth", x.told(0, 3) <= x.place(r, 4) ? 1 : 0, 1, r, a, 0);
    }

    private int same(String call, int got, int want, int p, int q, int s) {
        if (got == want) return got;
        Due.due("seed " + seed + ": " + call + "(" + p + ", " + q + ", " + s + ")", got, want);
        Due.finish();
        return got;
    }

    private void module(int kind) { same("module", x.module(kind), model.module(kind), kind, 0, 0); }
    private void routine(int m, int locals) { same("routine", x.routine(m, locals), model.routine(m, locals), m, locals, 0); }
    private void op(int r, int code, int v) { same("op", x.op(r, code, v), model.op(r, code, v), r, code, v); }
    private void drop(int r) { same("drop", x.drop(r), model.drop(r), r, 0, 0); }
    private void limit(int what, int v) { same("limit", x.limit(what, v), model.limit(what, v), what, v, 0); }
    private void fault(int what) { same("fault", x.fault(what), model.fault(what), what, 0, 0); }
    private void place(int r, int what) { same("place", x.place(r, what), model.place(r, what), r, what, 0); }
    private void leads(int from, int to) { same("leads", x.leads(from, to), model.leads(from, to), from, to, 0); }
    private void image(int b, int i) { same("image", x.image(b, i), model.image(b, i), b, i, 0); }
    private void out(int which, int i) { same("out", x.out(which, i), model.out(which, i), which, i, 0); }
    private int run(int r, int a, int n) { return same("run", x.run(r, a, n), model.run(r, a, n), r, a, n); }
    private int flat(int r, int a, int n) { return same("flat", x.flat(r, a, n), model.flat(r, a, n), r, a, n); }

    private void link() {
        same("link", x.link(), model.link(), 0, 0, 0);
        faultsSeen[model.fault(0)]++;
    }
}
