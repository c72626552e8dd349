import java.util.ArrayDeque;
import java.util.ArrayList;
import java.util.Arrays;
import java.util.Deque;
import java.util.List;
import java.util.TreeSet;

/**
 * The document once more, written as plainly as can be, with recursion and lists and nothing
 * shared with BankLinker, so that a slip in one of the two shows.
 */
final class Model {
    private static final int NONE = -1, BAD = -2, STATE = -3, FULL = -4, SPENT = -5;

    static final class Op {
        final int code, v;
        Op(int code, int v) { this.code = code; this.v = v; }
    }

    static final class Routine {
        final int number, module, locals;
        final List<Op> ops = new ArrayList<>();
        int bank, address, thunk;
        Routine(int number, int module, int locals) {
            this.number = number;
            this.module = module;
            this.locals = locals;
        }
        Op opAt(int i) { return i < ops.size() ? ops.get(i) : new Op(8, 0); }
        int bytesOfOp(int i) {
            int code = opAt(i).code;
            return code == 5 ? 3 : code == 2 || code == 8 ? 1 : 2;
        }
        int bytesBefore(int i) {
            return i == 0 ? (locals > 0 ? 3 : 0) : bytesBefore(i - 1) + bytesOfOp(i - 1);
        }
        int bytes() { return bytesBefore(ops.size()) + 1; }
    }

    static final class Told {
        int steps, a, deepest, switches;
        final List<Integer> out = new ArrayList<>();
    }

    final List<Integer> kinds = new ArrayList<>();
    final List<Routine> routines = new ArrayList<>();
    final int[] limits = {4, 100, 200, 20, 32};
    private boolean image = false;
    private int[] fault = {0, NONE, NONE};
    private List<List<Integer>> bytes = new ArrayList<>();
    private int thunks;
    private final Told[] told = {new Told(), new Told()};

    int module(int kind) {
        if (kind < 0 || kind > 1) return BAD;
        if (kinds.size() == 12) return FULL;
        image = false;
        kinds.add(kind);
        return kinds.size() - 1;
    }

    int routine(int module, int locals) {
        if (module < 0 || module >= kinds.size() || locals < 0 || locals > 9) return BAD;
        if (routines.size() == 30) return FULL;
        image = false;
        routines.add(new Routine(routines.size(), module, locals));
        return routines.size() - 1;
    }

    private boolean noRoutine(int r) { return r < 0 || r >= routines.size(); }

    int op(int r, int op, int v) {
        if (noRoutine(r) || op < 0 || op > 8) return BAD;
        Routine it = routines.get(r);
        int[] most = {255, 255, 0, it.locals - 1, it.locals - 1, routines.size() - 1, 40, 40, 0};
        if (op != 2 && op != 8 && (v < 0 || v > most[op])) return BAD;
        if (it.ops.size() == 40) return FULL;
        image = false;
        it.ops.add(new Op(op, v));
        return it.ops.size();
    }

    int drop(int r) {
        if (noRoutine(r)) return BAD;
        List<Op> ops = routines.get(r).ops;
        if (ops.isEmpty()) return NONE;
        image = false;
        ops.remove(ops.size() - 1);
        return ops.size();
    }

    int limit(int what, int v) {
        int[][] range = {{1, 8}, {8, 250}, {8, 250}, {1, 60}, {0, 64}};
        if (what < 0 || what > 4 || v < range[what][0] || v > range[what][1]) return BAD;
        image = false;
        int was = limits[what];
        limits[what] = v;
        return was;
    }

    int leads(int from, int to) {
        if (noRoutine(from) || noRoutine(to)) return BAD;
        return reach(from, new TreeSet<>()).contains(to) ? 1 : 0;
    }

    private TreeSet<Integer> reach(int from, TreeSet<Integer> seen) {
        for (Op op : routines.get(from).ops) {
            if (op.code == 5 && seen.add(op.v)) reach(op.v, seen);
        }
        return seen;
    }

    private boolean far(Routine from, Routine to) {
        if (kinds.get(to.module) == 0) return false;
        return kinds.get(from.module) == 0 || from.bank != to.bank;
    }

    private int base(Routine r) {
        int most = 0;
        for (Routine from : routines) {
            for (Op op : from.ops) {
                if (op.code == 5 && op.v == r.number) {
                    most = Math.max(most, base(from) + from.locals);
                    break;
                }
            }
        }
        return most;
    }

    private int depth(Routine r) {
        int most = 0;
        TreeSet<Integer> called = new TreeSet<>();
        for (Op op : r.ops) if (op.code == 5) called.add(op.v);
        for (int v : called) {
            Routine to = routines.get(v);
            most = Math.max(most, depth(to) + (far(r, to) ? 3 : 1));
        }
        return most;
    }

    private List<Routine> of(int module) {
        List<Routine> its = new ArrayList<>();
        for (Routine r : routines) if (r.module == module) its.add(r);
        return its;
    }

    private int bytesOfModule(int module) {
        int sum = 0;
        for (Routine r : of(module)) sum += r.bytes();
        return sum;
    }

    int link() {
        fault = findFault();
        image = fault[0] == 0;
        if (image) write();
        return image ? 1 : 0;
    }

    private int[] findFault() {
        for (Routine r : routines) {
            for (int i = 0; i < r.ops.size(); i++) {
                Op op = r.ops.get(i);
                if ((op.code == 6 || op.code == 7) && op.v > r.ops.size()) return new int[] {1, r.number, i};
            }
        }
        for (Routine r : routines) if (leads(r.number, r.number) == 1) return new int[] {2, r.number, NONE};
        for (int m = 0; m < kinds.size(); m++) {
            if (kinds.get(m) == 1 && bytesOfModule(m) > limits[1]) return new int[] {3, m, NONE};
        }
        int[] full = new int[limits[0]];
        int common = 0;
        for (int m = 0; m < kinds.size(); m++) {
            int bank = NONE;
            int at = common;
            if (kinds.get(m) == 1) {
                bank = 0;
                while (bank < limits[0] && full[bank] + bytesOfModule(m) > limits[1]) bank++;
                if (bank == limits[0]) return new int[] {4, m, NONE};
                at = 256 + full[bank];
                full[bank] += bytesOfModule(m);
            } else {
                common += bytesOfModule(m);
            }
            for (Routine r : of(m)) {
                r.bank = bank;
                r.address = at;
                at += r.bytes();
            }
        }
        thunks = 0;
        for (Routine to : routines) {
            to.thunk = NONE;
            boolean wanted = false;
            for (Routine from : routines) {
                for (Op op : from.ops) if (op.code == 5 && op.v == to.number && far(from, to)) wanted = true;
            }
            if (wanted) to.thunk = common + 8 * thunks++;
        }
        if (common + 8 * thunks > limits[2]) return new int[] {5, NONE, NONE};
        for (Routine r : routines) if (base(r) + r.locals > limits[4]) return new int[] {6, r.number, NONE};
        for (Routine r : routines) if (depth(r) > limits[3]) return new int[] {7, r.number, NONE};
        return new int[] {0, NONE, NONE};
    }

    private void write() {
        bytes = new ArrayList<>();
        for (int b = -1; b < limits[0]; b++) bytes.add(new ArrayList<>());
        for (int m = 0; m < kinds.size(); m++) for (Routine r : of(m)) write(r, bytes.get(r.bank + 1));
        for (Routine r : routines) {
            if (r.thunk == NONE) continue;
            bytes.get(0).addAll(List.of(9, 10, r.bank, 5, r.address % 256, r.address / 256, 11, 8));
        }
    }

    private void write(Routine r, List<Integer> row) {
        if (r.locals > 0) row.addAll(List.of(12, base(r), r.locals));
        for (int i = 0; i < r.ops.size(); i++) {
            Op op = r.ops.get(i);
            row.add(op.code);
            if (op.code <= 1) row.add(op.v);
            if (op.code == 3 || op.code == 4) row.add(base(r) + op.v);
            if (op.code == 6 || op.code == 7) row.add(Math.floorMod(r.bytesBefore(op.v) - r.bytesBefore(i + 1), 256));
            if (op.code == 5) {
                Routine to = routines.get(op.v);
                int address = far(r, to) ? to.thunk : to.address;
                row.add(address % 256);
                row.add(address / 256);
            }
        }
        row.add(8);
    }

    int fault(int what) { return what < 0 || what > 2 ? BAD : fault[what]; }

    int place(int routine, int what) {
        if (noRoutine(routine) || what < 0 || what > 5) return BAD;
        if (!image) return STATE;
        Routine r = routines.get(routine);
        return what == 0 ? r.bank : what == 1 ? r.address : what == 2 ? r.thunk
                : what == 3 ? base(r) : what == 4 ? depth(r) : r.bytes();
    }

    int image(int bank, int i) {
        if (bank < -1 || bank >= limits[0]) return BAD;
        if (!image) return STATE;
        List<Integer> row = bytes.get(bank + 1);
        return i < 0 || i >= row.size() ? NONE : row.get(i);
    }

    int count(int what) {
        if (what < 0 || what > 7) return BAD;
        if (what == 0) return kinds.size();
        if (what == 1) return routines.size();
        int ops = 0, farCalls = 0, cells = 0, banks = 0;
        for (Routine r : routines) ops += r.ops.size();
        if (what == 2) return ops;
        if (!image) return STATE;
        for (Routine r : routines) {
            cells = Math.max(cells, base(r) + r.locals);
            for (Op op : r.ops) if (op.code == 5 && far(r, routines.get(op.v))) farCalls++;
        }
        for (List<Integer> row : bytes.subList(1, bytes.size())) if (!row.isEmpty()) banks++;
        return what == 3 ? bytes.get(0).size() : what == 4 ? thunks : what == 5 ? banks : what == 6 ? cells : farCalls;
    }

    private boolean badRun(int r, int a, int n) {
        return noRoutine(r) || a < 0 || a > 255 || n < 1 || n > 3000;
    }

    int run(int routine, int a, int n) {
        if (badRun(routine, a, n)) return BAD;
        if (!image) return STATE;
        Told t = new Told();
        told[0] = t;
        t.a = a;
        int[] cells = new int[limits[4]];
        Deque<Integer> stack = new ArrayDeque<>();
        int bank = Math.max(0, routines.get(routine).bank);
        int pc = routines.get(routine).address;
        while (t.steps < n) {
            t.steps++;
            int[] seen = new int[3];
            for (int k = 0; k < 3; k++) {
                int at = pc + k;
                List<Integer> row = at < 256 ? bytes.get(0) : bytes.get(bank + 1);
                seen[k] = at % 256 < row.size() ? row.get(at % 256) : 0;
            }
            int code = seen[0], v = seen[1];
            pc += code == 5 || code == 12 ? 3 : code == 2 || code == 8 || code == 9 || code == 11 ? 1 : 2;
            if (code == 0) t.a = v;
            else if (code == 1) t.a = (t.a + v) % 256;
            else if (code == 2) t.out.add(t.a);
            else if (code == 3) t.a = cells[v];
            else if (code == 4) cells[v] = t.a;
            else if (code == 5) {
                stack.push(pc);
                pc = v + 256 * seen[2];
            } else if (code == 6 || code == 7) {
                if (code == 7 || t.a == 0) pc += (byte) v;
            } else if (code == 8) {
                if (stack.isEmpty()) return 1;
                pc = stack.pop();
            } else if (code == 9) stack.push(bank);
            else if (code == 10) {
                bank = v;
                t.switches++;
            } else if (code == 11) {
                bank = stack.pop();
                t.switches++;
            } else Arrays.fill(cells, v, v + seen[2], 0);
            t.deepest = Math.max(t.deepest, stack.size());
        }
        return SPENT;
    }

    int flat(int routine, int a, int n) {
        if (badRun(routine, a, n)) return BAD;
        told[1] = new Told();
        told[1].a = a;
        return begin(routines.get(routine), 1, n, told[1]);
    }

    /** 1: the routine is back; 0 or SPENT end all. */
    private int begin(Routine r, int on, int n, Told t) {
        int[] locals = new int[r.locals];
        t.deepest = Math.max(t.deepest, on - 1);
        int i = 0;
        while (t.steps < n) {
            t.steps++;
            Op op = r.opAt(i++);
            if (op.code == 8) return 1;
            if (op.code == 0) t.a = op.v;
            if (op.code == 1) t.a = (t.a + op.v) % 256;
            if (op.code == 2) t.out.add(t.a);
            if (op.code == 3) t.a = locals[op.v];
            if (op.code == 4) locals[op.v] = t.a;
            if (op.code == 7 || op.code == 6 && t.a == 0) {
                if (op.v > r.ops.size()) return 0;
                i = op.v;
            }
            if (op.code == 5) {
                if (on == 61) return 0;
                int came = begin(routines.get(op.v), on + 1, n, t);
                if (came != 1) return came;
            }
        }
        return SPENT;
    }

    int out(int which, int i) {
        if (which < 0 || which > 1) return BAD;
        List<Integer> out = told[which].out;
        return i < 0 || i > 99 || i >= out.size() ? NONE : out.get(i);
    }

    int told(int which, int what) {
        if (which < 0 || which > 1 || what < 0 || what > 4) return BAD;
        Told t = told[which];
        return what == 0 ? t.steps : what == 1 ? t.a : what == 2 ? t.out.size() : what == 3 ? t.deepest : t.switches;
    }
}
