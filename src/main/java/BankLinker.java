import java.util.Arrays;

/**
 * A linker for a small machine that sees one bank of its memory at a time, with a run of the
 * linked bytes and a run of the program as if there were no banks.
 */
public final class BankLinker {
    public static final int NONE = -1, BAD = -2, STATE = -3, FULL = -4, SPENT = -5;

    private static final int MOST_MODULES = 12, MOST_ROUTINES = 30, MOST_LOCALS = 9, MOST_OPS = 40;
    private static final int IN_COMMON = 0, IN_A_BANK = 1;
    private static final int MOST_A = 255, MOST_STEPS = 3000, MOST_KEPT = 100, MOST_ON = 61;

    private static final int SET = 0, ADD = 1, TELL = 2, LOAD = 3, STORE = 4, CALL = 5, IF = 6,
            GOTO = 7, BACK = 8, KEEP_BANK = 9, SET_BANK = 10, TAKE_BANK = 11, CLEAR = 12;
    private static final int[] BYTES_OF_OP = {2, 2, 1, 2, 2, 3, 2, 2, 1};
    private static final int BYTES_OF_CLEAR = 3, BYTES_OF_THUNK = 8, BANK_START = 256;

    private static final int BANKS = 0, SIZE = 1, COMMON = 2, STACK = 3, CELLS = 4, LIMITS = 5;
    private static final int[] FIRST_LIMIT = {4, 100, 200, 20, 32};
    private static final int[] LEAST_LIMIT = {1, 8, 8, 1, 0};
    private static final int[] GREATEST_LIMIT = {8, 250, 250, 60, 64};
    private static final int MOST_BANKS = 8, MOST_BYTES = 250, MOST_STACK = 60, MOST_CELLS = 64;

    private static final int STRAY_JUMP = 1, LOOP_OF_CALLS = 2, MODULE_TOO_BIG = 3, NO_ROOM = 4,
            COMMON_TOO_SMALL = 5, CELLS_TOO_FEW = 6, STACK_TOO_LOW = 7;

    private final Program program;
    private final Calls calls;
    private final Layout layout;
    private final Memory memory;
    private final Linker linker;
    private final Machine machine;
    private final FlatMachine flatMachine;
    private boolean linked;

    public BankLinker() {
        program = new Program();
        calls = new Calls();
        layout = new Layout();
        memory = new Memory();
        linker = new Linker(program, calls, layout, memory);
        machine = new Machine(memory);
        flatMachine = new FlatMachine(program);
        linked = false;
    }

    // ---- what is told

    public int module(int kind) {
        if (kind != IN_COMMON && kind != IN_A_BANK) return BAD;
        if (program.modules >= MOST_MODULES) return FULL;
        linked = false;
        return program.addModule(kind);
    }

    public int routine(int module, int locals) {
        if (!program.hasModule(module) || locals < 0 || locals > MOST_LOCALS) return BAD;
        if (program.routines >= MOST_ROUTINES) return FULL;
        linked = false;
        return program.addRoutine(module, locals);
    }

    public int op(int routine, int op, int v) {
        if (!program.hasRoutine(routine) || !program.mayAdd(routine, op, v)) return BAD;
        if (program.sizes[routine] >= MOST_OPS) return FULL;
        linked = false;
        return program.addOp(routine, op, v);
    }

    public int drop(int routine) {
        if (!program.hasRoutine(routine)) return BAD;
        if (program.sizes[routine] <= 0) return NONE;
        linked = false;
        program.sizes[routine]--;
        return program.sizes[routine];
    }

    public int limit(int what, int v) {
        if (what < 0 || what >= LIMITS) return BAD;
        if (v < LEAST_LIMIT[what] || v > GREATEST_LIMIT[what]) return BAD;
        linked = false;
        int before = program.limits[what];
        program.limits[what] = v;
        return before;
    }

    // ---- linking

    public int link() {
        linked = linker.linkAll();
        return linked ? 1 : 0;
    }

    public int fault(int what) {
        switch (what) {
            case 0: return linker.faultNumber;
            case 1: return linker.faultAt;
            case 2: return linker.faultOp;
            default: return BAD;
        }
    }

    public int place(int routine, int what) {
        if (!program.hasRoutine(routine) || what < 0 || what > 5) return BAD;
        if (!linked) return STATE;
        switch (what) {
            case 0: return layout.bank[routine];
            case 1: return layout.address[routine];
            case 2: return layout.thunk[routine];
            case 3: return layout.base[routine];
            case 4: return layout.depth[routine];
            default: return layout.bytes[routine];
        }
    }

    public int image(int bank, int i) {
        if (bank < NONE || bank >= program.limits[BANKS]) return BAD;
        if (!linked) return STATE;
        return memory.byteAt(bank, i);
    }

    public int count(int what) {
        if (what < 0 || what > 7) return BAD;
        if (what > 2 && !linked) return STATE;
        switch (what) {
            case 0: return program.modules;
            case 1: return program.routines;
            case 2: return program.opsOfAll();
            case 3: return layout.commonUsed;
            case 4: return layout.thunks;
            case 5: return memory.banksWithBytes();
            case 6: return layout.cellsNeeded;
            default: return layout.farCalls;
        }
    }

    public int leads(int from, int to) {
        if (!program.hasRoutine(from) || !program.hasRoutine(to)) return BAD;
        calls.trace(program);
        return calls.leadTo(from, to) ? 1 : 0;
    }

    // ---- runs

    public int run(int routine, int a, int n) {
        if (!mayRun(routine, a, n)) return BAD;
        if (!linked) return STATE;
        int bank = Math.max(layout.bank[routine], 0);
        return machine.perform(bank, layout.address[routine], a, n);
    }

    public int flat(int routine, int a, int n) {
        if (!mayRun(routine, a, n)) return BAD;
        return flatMachine.perform(routine, a, n);
    }

    public int out(int which, int i) {
        if (which != 0 && which != 1) return BAD;
        return reportOf(which).keptNumber(i);
    }

    public int told(int which, int what) {
        if (which != 0 && which != 1) return BAD;
        Report report = reportOf(which);
        switch (what) {
            case 0: return report.steps;
            case 1: return report.a;
            case 2: return report.numbers;
            case 3: return report.highest;
            case 4: return report.switches;
            default: return BAD;
        }
    }

    private boolean mayRun(int routine, int a, int n) {
        return program.hasRoutine(routine) && a >= 0 && a <= MOST_A && n >= 1 && n <= MOST_STEPS;
    }

    private Report reportOf(int which) {
        return which == 0 ? machine.report : flatMachine.report;
    }

    /** What the user has told: modules, routines, their ops, and the limits. */
    private static final class Program {
        int modules = 0;
        final int[] kinds = new int[MOST_MODULES];
        int routines = 0;
        final int[] owners = new int[MOST_ROUTINES];
        final int[] locals = new int[MOST_ROUTINES];
        final int[] sizes = new int[MOST_ROUTINES];
        final int[] codes = new int[MOST_ROUTINES * MOST_OPS];
        final int[] values = new int[MOST_ROUTINES * MOST_OPS];
        final int[] limits = FIRST_LIMIT.clone();

        boolean hasModule(int module) {
            return module >= 0 && module < modules;
        }

        boolean hasRoutine(int routine) {
            return routine >= 0 && routine < routines;
        }

        int addModule(int kind) {
            kinds[modules] = kind;
            modules++;
            return modules - 1;
        }

        int addRoutine(int module, int localCount) {
            owners[routines] = module;
            locals[routines] = localCount;
            routines++;
            return routines - 1;
        }

        int addOp(int routine, int code, int v) {
            int at = routine * MOST_OPS + sizes[routine];
            codes[at] = code;
            values[at] = v;
            sizes[routine]++;
            return sizes[routine];
        }

        boolean mayAdd(int routine, int code, int v) {
            switch (code) {
                case SET:
                case ADD:
                    return v >= 0 && v <= MOST_A;
                case LOAD:
                case STORE:
                    return v >= 0 && v < locals[routine];
                case CALL:
                    return hasRoutine(v);
                case IF:
                case GOTO:
                    return v >= 0 && v <= MOST_OPS;
                default:
                    return code == TELL || code == BACK;
            }
        }

        /** Behind the last op there is a BACK that nobody told. */
        int codeAt(int routine, int i) {
            return i >= 0 && i < sizes[routine] ? codes[routine * MOST_OPS + i] : BACK;
        }

        int valueAt(int routine, int i) {
            return i >= 0 && i < sizes[routine] ? values[routine * MOST_OPS + i] : 0;
        }

        boolean isJump(int routine, int i) {
            int code = codeAt(routine, i);
            return code == IF || code == GOTO;
        }

        int opsOfAll() {
            int sum = 0;
            for (int r = 0; r < routines; r++) sum += sizes[r];
            return sum;
        }

        int bytesOfClear(int routine) {
            return locals[routine] > 0 ? BYTES_OF_CLEAR : 0;
        }

        /** How far op i is behind the first byte of its routine. */
        int offsetOf(int routine, int i) {
            int offset = bytesOfClear(routine);
            for (int k = 0; k < i; k++) offset += BYTES_OF_OP[codeAt(routine, k)];
            return offset;
        }

        int bytesOf(int routine) {
            return offsetOf(routine, sizes[routine] + 1);
        }
    }

    /** Which routines call which; a set of routines is an int with one bit for each of the 30. */
    private static final class Calls {
        private final int[] called = new int[MOST_ROUTINES];
        private final int[] reached = new int[MOST_ROUTINES];

        void trace(Program program) {
            for (int r = 0; r < program.routines; r++) {
                called[r] = calledBy(program, r);
                reached[r] = called[r];
            }
            for (int via = 0; via < program.routines; via++) {
                for (int from = 0; from < program.routines; from++) {
                    if (leadTo(from, via)) reached[from] |= reached[via];
                }
            }
        }

        private static int calledBy(Program program, int routine) {
            int set = 0;
            for (int i = 0; i < program.sizes[routine]; i++) {
                if (program.codeAt(routine, i) == CALL) set |= 1 << program.valueAt(routine, i);
            }
            return set;
        }

        boolean hasCall(int from, int to) {
            return ((called[from] >>> to) & 1) == 1;
        }

        boolean leadTo(int from, int to) {
            return ((reached[from] >>> to) & 1) == 1;
        }
    }

    /** Where all comes to, and what it needs; it counts only while there is an image. */
    private static final class Layout {
        final int[] bytes = new int[MOST_ROUTINES];
        final int[] bank = new int[MOST_ROUTINES];
        final int[] address = new int[MOST_ROUTINES];
        final int[] thunk = new int[MOST_ROUTINES];
        final int[] base = new int[MOST_ROUTINES];
        final int[] depth = new int[MOST_ROUTINES];
        final int[] moduleBytes = new int[MOST_MODULES];
        final int[] moduleBank = new int[MOST_MODULES];
        /** Where the next routine of a module comes to. */
        final int[] moduleNext = new int[MOST_MODULES];
        final int[] bankUsed = new int[MOST_BANKS];
        int commonUsed = 0;
        int thunks = 0;
        int farCalls = 0;
        int cellsNeeded = 0;

        void measure(Program program) {
            Arrays.fill(moduleBytes, 0);
            for (int r = 0; r < program.routines; r++) {
                bytes[r] = program.bytesOf(r);
                moduleBytes[program.owners[r]] += bytes[r];
            }
        }

        /** Answers the first module for which no bank has room, or NONE. */
        int placeModules(Program program) {
            Arrays.fill(bankUsed, 0);
            commonUsed = 0;
            for (int m = 0; m < program.modules; m++) {
                if (program.kinds[m] == IN_COMMON) {
                    moduleBank[m] = NONE;
                    moduleNext[m] = commonUsed;
                    commonUsed += moduleBytes[m];
                } else {
                    int found = bankWithRoom(program, moduleBytes[m]);
                    if (found == NONE) return m;
                    moduleBank[m] = found;
                    moduleNext[m] = BANK_START + bankUsed[found];
                    bankUsed[found] += moduleBytes[m];
                }
            }
            return NONE;
        }

        private int bankWithRoom(Program program, int wanted) {
            for (int b = 0; b < program.limits[BANKS]; b++) {
                if (bankUsed[b] + wanted <= program.limits[SIZE]) return b;
            }
            return NONE;
        }

        void placeRoutines(Program program) {
            for (int r = 0; r < program.routines; r++) {
                int m = program.owners[r];
                bank[r] = moduleBank[m];
                address[r] = moduleNext[m];
                moduleNext[m] += bytes[r];
            }
        }

        boolean isFar(int from, int to) {
            return bank[to] != NONE && bank[from] != bank[to];
        }

        void placeThunks(Program program, Calls calls) {
            thunks = 0;
            for (int to = 0; to < program.routines; to++) {
                thunk[to] = NONE;
                if (hasFarCaller(program, calls, to)) {
                    thunk[to] = commonUsed;
                    commonUsed += BYTES_OF_THUNK;
                    thunks++;
                }
            }
        }

        private boolean hasFarCaller(Program program, Calls calls, int to) {
            for (int from = 0; from < program.routines; from++) {
                if (calls.hasCall(from, to) && isFar(from, to)) return true;
            }
            return false;
        }

        void countFarCalls(Program program) {
            farCalls = 0;
            for (int r = 0; r < program.routines; r++) {
                for (int i = 0; i < program.sizes[r]; i++) {
                    if (program.codeAt(r, i) == CALL && isFar(r, program.valueAt(r, i))) farCalls++;
                }
            }
        }

        /** No chain of calls is longer than there are routines, so that many rounds settle all. */
        void settleNeeds(Program program, Calls calls) {
            Arrays.fill(base, 0);
            Arrays.fill(depth, 0);
            boolean changed = true;
            for (int round = 0; round < program.routines && changed; round++) {
                changed = raiseNeeds(program, calls);
            }
            cellsNeeded = 0;
            for (int r = 0; r < program.routines; r++) {
                cellsNeeded = Math.max(cellsNeeded, base[r] + program.locals[r]);
            }
        }

        private boolean raiseNeeds(Program program, Calls calls) {
            boolean changed = false;
            for (int from = 0; from < program.routines; from++) {
                for (int to = 0; to < program.routines; to++) {
                    if (!calls.hasCall(from, to)) continue;
                    int wantedBase = base[from] + program.locals[from];
                    int wantedDepth = depth[to] + (isFar(from, to) ? 3 : 1);
                    if (base[to] < wantedBase || depth[from] < wantedDepth) changed = true;
                    base[to] = Math.max(base[to], wantedBase);
                    depth[from] = Math.max(depth[from], wantedDepth);
                }
            }
            return changed;
        }
    }

    /** The bytes: row 0 is COMMON, row b + 1 is bank b. */
    private static final class Memory {
        private final int[][] rows = new int[MOST_BANKS + 1][MOST_BYTES];
        private final int[] lengths = new int[MOST_BANKS + 1];

        void empty() {
            Arrays.fill(lengths, 0);
        }

        void append(int bank, int number) {
            int row = bank + 1;
            if (row < 0 || row >= rows.length || lengths[row] >= MOST_BYTES) return;
            rows[row][lengths[row]] = number & 255;
            lengths[row]++;
        }

        void appendAddress(int bank, int address) {
            append(bank, address);
            append(bank, address >> 8);
        }

        int byteAt(int bank, int i) {
            int row = bank + 1;
            if (row < 0 || row >= rows.length || i < 0 || i >= lengths[row]) return NONE;
            return rows[row][i];
        }

        int seenAt(int bank, int address) {
            return address < BANK_START ? byteAt(NONE, address) : byteAt(bank, address - BANK_START);
        }

        int banksWithBytes() {
            int sum = 0;
            for (int row = 1; row < lengths.length; row++) {
                if (lengths[row] > 0) sum++;
            }
            return sum;
        }
    }

    /** Looks for faults in the order of their numbers, and writes the bytes if there is none. */
    private static final class Linker {
        private final Program program;
        private final Calls calls;
        private final Layout layout;
        private final Memory memory;
        int faultNumber = 0;
        int faultAt = NONE;
        int faultOp = NONE;

        Linker(Program program, Calls calls, Layout layout, Memory memory) {
            this.program = program;
            this.calls = calls;
            this.layout = layout;
            this.memory = memory;
        }

        boolean linkAll() {
            blame(0, NONE, NONE);
            memory.empty();
            calls.trace(program);
            if (findStrayJump() || findLoopOfCalls()) return false;
            layout.measure(program);
            if (findBigModule() || findNoRoom()) return false;
            layout.placeRoutines(program);
            layout.placeThunks(program, calls);
            layout.countFarCalls(program);
            layout.settleNeeds(program, calls);
            if (findSmallCommon() || findFewCells() || findLowStack()) return false;
            writeModules();
            writeThunks();
            return true;
        }

        private boolean blame(int number, int at, int op) {
            faultNumber = number;
            faultAt = at;
            faultOp = op;
            return true;
        }

        private boolean findStrayJump() {
            for (int r = 0; r < program.routines; r++) {
                for (int i = 0; i < program.sizes[r]; i++) {
                    if (program.isJump(r, i) && program.valueAt(r, i) > program.sizes[r]) {
                        return blame(STRAY_JUMP, r, i);
                    }
                }
            }
            return false;
        }

        private boolean findLoopOfCalls() {
            for (int r = 0; r < program.routines; r++) {
                if (calls.leadTo(r, r)) return blame(LOOP_OF_CALLS, r, NONE);
            }
            return false;
        }

        private boolean findBigModule() {
            for (int m = 0; m < program.modules; m++) {
                if (program.kinds[m] == IN_A_BANK && layout.moduleBytes[m] > program.limits[SIZE]) {
                    return blame(MODULE_TOO_BIG, m, NONE);
                }
            }
            return false;
        }

        private boolean findNoRoom() {
            int without = layout.placeModules(program);
            return without != NONE && blame(NO_ROOM, without, NONE);
        }

        private boolean findSmallCommon() {
            return layout.commonUsed > program.limits[COMMON] && blame(COMMON_TOO_SMALL, NONE, NONE);
        }

        private boolean findFewCells() {
            for (int r = 0; r < program.routines; r++) {
                if (layout.base[r] + program.locals[r] > program.limits[CELLS]) {
                    return blame(CELLS_TOO_FEW, r, NONE);
                }
            }
            return false;
        }

        private boolean findLowStack() {
            for (int r = 0; r < program.routines; r++) {
                if (layout.depth[r] > program.limits[STACK]) return blame(STACK_TOO_LOW, r, NONE);
            }
            return false;
        }

        private void writeModules() {
            for (int m = 0; m < program.modules; m++) {
                for (int r = 0; r < program.routines; r++) {
                    if (program.owners[r] == m) writeRoutine(r);
                }
            }
        }

        private void writeRoutine(int r) {
            int bank = layout.bank[r];
            if (program.locals[r] > 0) {
                memory.append(bank, CLEAR);
                memory.append(bank, layout.base[r]);
                memory.append(bank, program.locals[r]);
            }
            for (int i = 0; i < program.sizes[r]; i++) writeOp(r, i);
            memory.append(bank, BACK);
        }

        private void writeOp(int r, int i) {
            int bank = layout.bank[r];
            int code = program.codeAt(r, i);
            int v = program.valueAt(r, i);
            memory.append(bank, code);
            switch (code) {
                case SET:
                case ADD:
                    memory.append(bank, v);
                    break;
                case LOAD:
                case STORE:
                    memory.append(bank, layout.base[r] + v);
                    break;
                case CALL:
                    memory.appendAddress(bank, layout.isFar(r, v) ? layout.thunk[v] : layout.address[v]);
                    break;
                case IF:
                case GOTO:
                    memory.append(bank, program.offsetOf(r, v) - program.offsetOf(r, i + 1));
                    break;
                default:
                    break;
            }
        }

        private void writeThunks() {
            for (int r = 0; r < program.routines; r++) {
                if (layout.thunk[r] != NONE) writeThunk(r);
            }
        }

        private void writeThunk(int r) {
            memory.append(NONE, KEEP_BANK);
            memory.append(NONE, SET_BANK);
            memory.append(NONE, layout.bank[r]);
            memory.append(NONE, CALL);
            memory.appendAddress(NONE, layout.address[r]);
            memory.append(NONE, TAKE_BANK);
            memory.append(NONE, BACK);
        }
    }

    /** What is kept of the latest run of one sort. */
    private static final class Report {
        private final int[] kept = new int[MOST_KEPT];
        int steps = 0;
        int a = 0;
        int numbers = 0;
        int highest = 0;
        int switches = 0;

        void begin(int firstA) {
            steps = 0;
            a = firstA;
            numbers = 0;
            highest = 0;
            switches = 0;
        }

        void add(int v) {
            a = (a + v) & MOST_A;
        }

        void tellA() {
            if (numbers < MOST_KEPT) kept[numbers] = a;
            numbers++;
        }

        void reach(int height) {
            highest = Math.max(highest, height);
        }

        int keptNumber(int i) {
            return i >= 0 && i < MOST_KEPT && i < numbers ? kept[i] : NONE;
        }
    }

    /** Runs the bytes. */
    private static final class Machine {
        final Report report = new Report();
        private final Memory memory;
        private final int[] cells = new int[MOST_CELLS];
        private final int[] stack = new int[MOST_STACK];
        private int height = 0;
        private int pc = 0;
        private int bank = 0;

        Machine(Memory memory) {
            this.memory = memory;
        }

        int perform(int firstBank, int address, int a, int n) {
            report.begin(a);
            Arrays.fill(cells, 0);
            height = 0;
            pc = address;
            bank = firstBank;
            for (int step = 0; step < n; step++) {
                report.steps++;
                int code = fetch();
                if (code == BACK && height == 0) return 1;
                doCode(code);
            }
            return SPENT;
        }

        private int fetch() {
            int number = memory.seenAt(bank, pc);
            pc++;
            return number;
        }

        private void doCode(int code) {
            switch (code) {
                case SET: report.a = fetch(); break;
                case ADD: report.add(fetch()); break;
                case TELL: report.tellA(); break;
                case LOAD: report.a = cellAt(fetch()); break;
                case STORE: setCell(fetch(), report.a); break;
                case CALL: goInto(); break;
                case IF: jumpIf(report.a == 0); break;
                case GOTO: jumpIf(true); break;
                case BACK: pc = pop(); break;
                case KEEP_BANK: push(bank); break;
                case SET_BANK: switchTo(fetch()); break;
                case TAKE_BANK: switchTo(pop()); break;
                case CLEAR: clearCells(); break;
                default: break;
            }
        }

        private int cellAt(int cell) {
            return cell >= 0 && cell < MOST_CELLS ? cells[cell] : 0;
        }

        private void setCell(int cell, int number) {
            if (cell >= 0 && cell < MOST_CELLS) cells[cell] = number;
        }

        private void clearCells() {
            int first = fetch();
            int many = fetch();
            for (int k = 0; k < many; k++) setCell(first + k, 0);
        }

        private void goInto() {
            int low = fetch();
            int high = fetch();
            push(pc);
            pc = high * 256 + low;
        }

        private void jumpIf(boolean taken) {
            int by = fetch();
            if (taken) pc += by > 127 ? by - 256 : by;
        }

        private void switchTo(int newBank) {
            bank = newBank;
            report.switches++;
        }

        private void push(int number) {
            if (height >= MOST_STACK) return;
            stack[height] = number;
            height++;
            report.reach(height);
        }

        private int pop() {
            if (height <= 0) return 0;
            height--;
            return stack[height];
        }
    }

    /** Runs the ops as if there were no banks, each routine that is on with locals of its own. */
    private static final class FlatMachine {
        private static final int GOES_ON = 2, DONE = 1, ASTRAY = 0;

        final Report report = new Report();
        private final Program program;
        private final int[] routineOn = new int[MOST_ON];
        private final int[] nextOp = new int[MOST_ON];
        private final int[] locals = new int[MOST_ON * MOST_LOCALS];
        private int top = 0;

        FlatMachine(Program program) {
            this.program = program;
        }

        int perform(int routine, int a, int n) {
            report.begin(a);
            top = -1;
            beginRoutine(routine);
            for (int step = 0; step < n; step++) {
                report.steps++;
                int end = doOp();
                if (end != GOES_ON) return end;
            }
            return SPENT;
        }

        private int doOp() {
            int routine = routineOn[top];
            int i = nextOp[top];
            int v = program.valueAt(routine, i);
            nextOp[top] = i + 1;
            switch (program.codeAt(routine, i)) {
                case SET: report.a = v; return GOES_ON;
                case ADD: report.add(v); return GOES_ON;
                case TELL: report.tellA(); return GOES_ON;
                case LOAD: report.a = locals[top * MOST_LOCALS + v]; return GOES_ON;
                case STORE: locals[top * MOST_LOCALS + v] = report.a; return GOES_ON;
                case CALL: return beginRoutine(v);
                case IF: return report.a == 0 ? jumpTo(v) : GOES_ON;
                case GOTO: return jumpTo(v);
                default: return endRoutine();
            }
        }

        private int beginRoutine(int routine) {
            if (top >= MOST_ON - 1) return ASTRAY;
            top++;
            routineOn[top] = routine;
            nextOp[top] = 0;
            Arrays.fill(locals, top * MOST_LOCALS, (top + 1) * MOST_LOCALS, 0);
            report.reach(top);
            return GOES_ON;
        }

        private int jumpTo(int v) {
            if (v > program.sizes[routineOn[top]]) return ASTRAY;
            nextOp[top] = v;
            return GOES_ON;
        }

        private int endRoutine() {
            if (top == 0) return DONE;
            top--;
            return GOES_ON;
        }
    }
}
