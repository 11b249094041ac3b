import java.util.Arrays;

/**
 * Modules that use each other's functions and data: in which order they are loaded and begun, to
 * which definition each name comes, how calls are bound, and what runs.
 */
public final class LinkStation {
    public static final int NONE = -1;

    private static final int MODULES = 12;
    private static final int NEEDS = 6;
    private static final int NAMES = 64;
    private static final int DEFINITIONS = 20;
    private static final int STEPS = 100;
    private static final int REGISTERS = 8;
    private static final int CALLS = 100;
    private static final int SAYINGS = 60;
    private static final int GRANTED = 5000;
    private static final int BASE = 1000;

    private static final int NOTHING = 20;
    private static final int UNBOUND = 21;

    private static final int FUNCTION = 0;
    private static final int DATUM = 1;

    private static final int WEAK = 1;
    private static final int OWN = 2;
    private static final int HIDDEN = 4;
    private static final int LAST_HOW = 5;

    private static final int EAGER = 0;
    private static final int LAZY = 1;

    private static final int NO_FAULT = 0;
    private static final int MISSING = 1;
    private static final int WRONG_KIND = 2;

    private static final int SET = 0;
    private static final int COPY = 1;
    private static final int SUM = 2;
    private static final int DIFFERENCE = 3;
    private static final int PRODUCT = 4;
    private static final int IF_LESS = 5;
    private static final int JUMP = 6;
    private static final int CALL = 7;
    private static final int READ = 8;
    private static final int WRITE = 9;
    private static final int ADDRESS = 10;
    private static final int CALL_AT = 11;
    private static final int BACK = 12;
    private static final int SAY = 13;
    private static final int END = 14;

    private static final int GOES_ON = -1;
    private static final int DONE = 0;
    private static final int OUT_OF_STEPS = 1;
    private static final int TOO_DEEP = 2;
    private static final int LOST = 3;
    private static final int BEHIND_LAST = 4;

    private final LinkModule[] modules;
    private int moduleCount = 0;
    private Layout loaded;
    private Layout trial;
    private final Fault latestFault = new Fault();
    private final Machine machine = new Machine();

    public LinkStation() {
        // A blank module in every place, so that no reference read from the row is ever null.
        LinkModule blank = new LinkModule();
        LinkModule[] row = new LinkModule[MODULES];
        for (int m = 0; m < MODULES; m++) {
            row[m] = blank;
        }
        modules = row;
        loaded = new Layout(row);
        trial = new Layout(row);
    }

    public int module() {
        if (moduleCount >= MODULES) {
            return NONE;
        }
        modules[moduleCount] = new LinkModule();
        moduleCount++;
        return moduleCount - 1;
    }

    public int need(int m, int other) {
        if (!isModule(m) || !isModule(other) || !modules[m].addNeed(other)) {
            return NONE;
        }
        loaded.clear();
        return modules[m].needCount;
    }

    public int define(int m, int name, int kind, int v, int how) {
        if (!isModule(m) || !isName(name) || how < 0 || how > LAST_HOW) {
            return NONE;
        }
        boolean fits = kind == DATUM || (kind == FUNCTION && isStep(v));
        if (!fits || !modules[m].addDefinition(name, kind, v, how)) {
            return NONE;
        }
        loaded.clear();
        return modules[m].definitionCount;
    }

    public int optional(int m, int name) {
        if (!isModule(m) || !isName(name) || modules[m].optionals[name]) {
            return 0;
        }
        modules[m].optionals[name] = true;
        loaded.clear();
        return 1;
    }

    public int beginner(int m, int name) {
        if (!isModule(m) || (name != NONE && !isName(name))) {
            return 0;
        }
        modules[m].beginner = name;
        loaded.clear();
        return 1;
    }

    public int put(int m, int op, int a, int b, int c) {
        if (!isModule(m) || !isWellFormed(op, a, b, c) || !modules[m].addStep(op, a, b, c)) {
            return NONE;
        }
        loaded.clear();
        return modules[m].stepCount - 1;
    }

    public int load(int root, int lazy) {
        if (!isModule(root) || (lazy != EAGER && lazy != LAZY)) {
            return NONE;
        }
        trial.arrange(root, lazy == LAZY);
        trial.findFault(latestFault);
        if (latestFault.kind == NO_FAULT) {
            takeTrial();
        }
        return latestFault.kind;
    }

    public int fault(int what) {
        switch (what) {
            case 0:
                return latestFault.module;
            case 1:
                return latestFault.step;
            case 2:
                return latestFault.name;
            default:
                return NONE;
        }
    }

    public int order(int place, int what) {
        if (place < 0 || place >= loaded.size) {
            return NONE;
        }
        if (what == 0) {
            return loaded.inOrder[place];
        }
        return what == 1 ? loaded.begun[place] : NONE;
    }

    public int comes(int m, int name) {
        return loaded.holds(m) && isName(name) ? loaded.giverOf(m, name) : NONE;
    }

    public int bound(int m, int name) {
        return loaded.holds(m) && isName(name) ? modules[m].slots[name] : NONE;
    }

    public int run(int entry, int steps) {
        if (loaded.size == 0 || !isName(entry) || steps < 0 || steps > GRANTED) {
            return NONE;
        }
        int giver = loaded.giverOf(loaded.inOrder[0], entry);
        if (!loaded.holds(giver) || modules[giver].kinds[entry] != FUNCTION) {
            return NONE;
        }
        loaded.refresh();
        machine.prepare(loaded, entry);
        return machine.go(loaded, steps);
    }

    public int count(int what) {
        switch (what) {
            case 0:
                return machine.made;
            case 1:
                return machine.saidCount;
            case 2:
                return machine.boundCount;
            case 3:
                return machine.deepest;
            case 4:
                return loaded.size;
            case 5:
                return moduleCount;
            default:
                return NONE;
        }
    }

    public int said(int k) {
        return k >= 0 && k < SAYINGS && k < machine.saidCount ? machine.sayings[k] : 0;
    }

    public int register(int r) {
        return isRegister(r) ? machine.registers[r] : 0;
    }

    public int datum(int m, int name) {
        if (!loaded.holds(m) || !isName(name) || modules[m].kinds[name] != DATUM) {
            return NONE;
        }
        return modules[m].data[name];
    }

    public int check() {
        return loaded.isTrulyBound() ? 1 : 0;
    }

    private boolean isModule(int m) {
        return m >= 0 && m < moduleCount;
    }

    // Two layouts change places, so that a load with a fault never touches the one that stays.
    private void takeTrial() {
        Layout before = loaded;
        loaded = trial;
        trial = before;
        loaded.refresh();
    }

    private static boolean isName(int name) {
        return name >= 0 && name < NAMES;
    }

    private static boolean isStep(int step) {
        return step >= 0 && step < STEPS;
    }

    private static boolean isRegister(int r) {
        return r >= 0 && r < REGISTERS;
    }

    private static boolean isWellFormed(int op, int a, int b, int c) {
        switch (op) {
            case SET:
            case CALL_AT:
            case SAY:
                return isRegister(a);
            case COPY:
                return isRegister(a) && isRegister(b);
            case SUM:
            case DIFFERENCE:
            case PRODUCT:
                return isRegister(a) && isRegister(b) && isRegister(c);
            case IF_LESS:
                return isRegister(a) && isRegister(b) && isStep(c);
            case JUMP:
                return isStep(a);
            case CALL:
                return isName(a);
            case READ:
            case ADDRESS:
                return isRegister(a) && isName(b);
            case WRITE:
                return isName(a) && isRegister(b);
            case BACK:
            case END:
                return true;
            default:
                return false;
        }
    }

    /** What one module has been told, and the slots and data that it has while it is loaded. */
    private static final class LinkModule {
        final int[] needs = new int[NEEDS];
        int needCount = 0;
        final int[] kinds = new int[NAMES];
        final int[] values = new int[NAMES];
        final int[] hows = new int[NAMES];
        int definitionCount = 0;
        final boolean[] functionAt = new boolean[STEPS];
        final boolean[] optionals = new boolean[NAMES];
        int beginner = NONE;
        final int[] ops = new int[STEPS];
        final int[] as = new int[STEPS];
        final int[] bs = new int[STEPS];
        final int[] cs = new int[STEPS];
        int stepCount = 0;
        final int[] slots = new int[NAMES];
        final int[] data = new int[NAMES];

        LinkModule() {
            Arrays.fill(kinds, NONE);
            Arrays.fill(slots, NONE);
        }

        boolean addNeed(int other) {
            if (needCount >= NEEDS) {
                return false;
            }
            for (int i = 0; i < needCount; i++) {
                if (needs[i] == other) {
                    return false;
                }
            }
            needs[needCount] = other;
            needCount++;
            return true;
        }

        boolean addDefinition(int name, int kind, int v, int how) {
            if (kinds[name] != NONE || definitionCount >= DEFINITIONS) {
                return false;
            }
            kinds[name] = kind;
            values[name] = v;
            hows[name] = how;
            if (kind == FUNCTION) {
                functionAt[v] = true;
            }
            definitionCount++;
            return true;
        }

        boolean addStep(int op, int a, int b, int c) {
            if (stepCount >= STEPS) {
                return false;
            }
            ops[stepCount] = op;
            as[stepCount] = a;
            bs[stepCount] = b;
            cs[stepCount] = c;
            stepCount++;
            return true;
        }

        boolean keepsToItself(int name) {
            return kinds[name] != NONE && (hows[name] & (OWN | HIDDEN)) != 0;
        }

        boolean offers(int name) {
            return kinds[name] != NONE && (hows[name] & HIDDEN) == 0;
        }

        boolean isWeak(int name) {
            return (hows[name] & WEAK) != 0;
        }

        int nameUsedAt(int step) {
            switch (ops[step]) {
                case CALL:
                case WRITE:
                    return as[step];
                case READ:
                case ADDRESS:
                    return bs[step];
                default:
                    return NONE;
            }
        }

        int kindWantedAt(int step) {
            return ops[step] == READ || ops[step] == WRITE ? DATUM : FUNCTION;
        }
    }

    /** The first fault that a load met. */
    private static final class Fault {
        int kind = NO_FAULT;
        int module = NONE;
        int step = NONE;
        int name = NONE;

        Fault() {
        }

        void become(int newKind, int newModule, int newStep, int newName) {
            kind = newKind;
            module = newModule;
            step = newStep;
            name = newName;
        }
    }

    /** Which modules are loaded from a root, in which orders, and who gives each name to all. */
    private static final class Layout {
        final LinkModule[] modules;
        final int[] inOrder = new int[MODULES];
        final int[] places = new int[MODULES];
        int size = 0;
        final int[] begun = new int[MODULES];
        final boolean[] met = new boolean[MODULES];
        int begunCount = 0;
        final int[] givers = new int[NAMES];
        boolean lazy = false;

        Layout(LinkModule[] allModules) {
            modules = allModules;
            Arrays.fill(places, NONE);
        }

        void clear() {
            size = 0;
            begunCount = 0;
            Arrays.fill(places, NONE);
        }

        void arrange(int root, boolean isLazy) {
            clear();
            lazy = isLazy;
            placeFrom(root);
            for (int m = 0; m < MODULES; m++) {
                met[m] = false;
            }
            beginFrom(this, root, 0);
            findGivers();
        }

        private void placeFrom(int root) {
            append(root);
            for (int p = 0; p < MODULES && p < size; p++) {
                LinkModule module = modules[inOrder[p]];
                for (int i = 0; i < module.needCount; i++) {
                    append(module.needs[i]);
                }
            }
        }

        private void append(int m) {
            if (places[m] == NONE && size < MODULES) {
                places[m] = size;
                inOrder[size] = m;
                size++;
            }
        }

        // Every level meets one more module, so the depth stays below their number.
        private static void beginFrom(Layout layout, int m, int depth) {
            if (layout.met[m] || depth >= MODULES) {
                return;
            }
            layout.met[m] = true;
            LinkModule module = layout.modules[m];
            for (int i = 0; i < module.needCount; i++) {
                beginFrom(layout, module.needs[i], depth + 1);
            }
            if (layout.begunCount < MODULES) {
                layout.begun[layout.begunCount] = m;
                layout.begunCount++;
            }
        }

        private void findGivers() {
            Arrays.fill(givers, NOTHING);
            for (int p = 0; p < size; p++) {
                int m = inOrder[p];
                for (int name = 0; name < NAMES; name++) {
                    if (modules[m].offers(name) && isBetterGiver(m, name)) {
                        givers[name] = m;
                    }
                }
            }
        }

        private boolean isBetterGiver(int m, int name) {
            int giver = givers[name];
            return !holds(giver) || (modules[giver].isWeak(name) && !modules[m].isWeak(name));
        }

        boolean holds(int m) {
            return m >= 0 && m < MODULES && places[m] != NONE;
        }

        int giverOf(int m, int name) {
            return modules[m].keepsToItself(name) ? m : givers[name];
        }

        void findFault(Fault fault) {
            fault.become(NO_FAULT, NONE, NONE, NONE);
            for (int p = 0; p < size && fault.kind == NO_FAULT; p++) {
                findFaultIn(inOrder[p], fault);
            }
        }

        private void findFaultIn(int m, Fault fault) {
            LinkModule module = modules[m];
            lookAtUse(m, NONE, module.beginner, FUNCTION, fault);
            for (int s = 0; s < module.stepCount && fault.kind == NO_FAULT; s++) {
                lookAtUse(m, s, module.nameUsedAt(s), module.kindWantedAt(s), fault);
            }
        }

        private void lookAtUse(int m, int step, int name, int wantedKind, Fault fault) {
            if (name == NONE) {
                return;
            }
            int giver = giverOf(m, name);
            if (!holds(giver)) {
                if (!modules[m].optionals[name]) {
                    fault.become(MISSING, m, step, name);
                }
            } else if (modules[giver].kinds[name] != wantedKind) {
                fault.become(WRONG_KIND, m, step, name);
            }
        }

        // Both a load and the beginning of a run bring data and slots to where they were at first.
        void refresh() {
            for (int p = 0; p < size; p++) {
                int m = inOrder[p];
                System.arraycopy(modules[m].values, 0, modules[m].data, 0, NAMES);
                refreshSlots(m);
            }
        }

        // No step is ever taken away, so that every slot there was is met here again.
        private void refreshSlots(int m) {
            LinkModule module = modules[m];
            for (int s = 0; s < module.stepCount; s++) {
                if (module.ops[s] == CALL) {
                    int name = module.as[s];
                    module.slots[name] = lazy ? UNBOUND : giverOf(m, name);
                }
            }
        }

        boolean isTrulyBound() {
            for (int p = 0; p < size; p++) {
                int m = inOrder[p];
                for (int name = 0; name < NAMES; name++) {
                    int slot = modules[m].slots[name];
                    if (slot != NONE && slot != UNBOUND && slot != giverOf(m, name)) {
                        return false;
                    }
                }
            }
            return true;
        }

        int addressOf(int m, int name) {
            int giver = giverOf(m, name);
            return holds(giver) ? BASE * (places[giver] + 1) + modules[giver].values[name] : 0;
        }
    }

    /** What runs, and what the latest run left. */
    private static final class Machine {
        final int[] registers = new int[REGISTERS];
        final int[] sayings = new int[SAYINGS];
        int made = 0;
        int saidCount = 0;
        int boundCount = 0;
        int deepest = 0;
        private final int[] startModules = new int[MODULES + 1];
        private final int[] startSteps = new int[MODULES + 1];
        private int startCount = 0;
        private int started = 0;
        private final int[] backModules = new int[CALLS];
        private final int[] backSteps = new int[CALLS];
        private int depth = 0;
        private int module = 0;
        private int step = 0;

        Machine() {
        }

        void prepare(Layout from, int entry) {
            Arrays.fill(registers, 0);
            made = 0;
            saidCount = 0;
            boundCount = 0;
            deepest = 0;
            depth = 0;
            startCount = 0;
            started = 0;
            for (int i = 0; i < from.begunCount; i++) {
                int m = from.begun[i];
                addStart(from, m, from.modules[m].beginner);
            }
            addStart(from, from.inOrder[0], entry);
        }

        private void addStart(Layout from, int m, int name) {
            int giver = name == NONE ? NOTHING : from.giverOf(m, name);
            if (from.holds(giver) && startCount <= MODULES) {
                startModules[startCount] = giver;
                startSteps[startCount] = from.modules[giver].values[name];
                startCount++;
            }
        }

        int go(Layout from, int granted) {
            int end = startNext();
            for (int turn = 0; turn <= granted && end == GOES_ON; turn++) {
                end = takeTurn(from, granted);
            }
            return end;
        }

        private int takeTurn(Layout from, int granted) {
            LinkModule here = from.modules[module];
            if (step >= here.stepCount) {
                return BEHIND_LAST;
            }
            if (made >= granted) {
                return OUT_OF_STEPS;
            }
            made++;
            int current = step;
            step++;
            int op = here.ops[current];
            return makeStep(from, op, here.as[current], here.bs[current], here.cs[current]);
        }

        private int makeStep(Layout from, int op, int a, int b, int c) {
            switch (op) {
                case CALL:
                    return callName(from, a);
                case CALL_AT:
                    return callAt(from, registers[a]);
                case BACK:
                    return goBack();
                case END:
                    return DONE;
                case READ:
                    registers[a] = readDatum(from, b);
                    return GOES_ON;
                case WRITE:
                    writeDatum(from, a, registers[b]);
                    return GOES_ON;
                case ADDRESS:
                    registers[a] = from.addressOf(module, b);
                    return GOES_ON;
                case SAY:
                    say(registers[a]);
                    return GOES_ON;
                default:
                    reckon(op, a, b, c);
                    return GOES_ON;
            }
        }

        private void reckon(int op, int a, int b, int c) {
            switch (op) {
                case SET:
                    registers[a] = b;
                    break;
                case COPY:
                    registers[a] = registers[b];
                    break;
                case SUM:
                    registers[a] = registers[b] + registers[c];
                    break;
                case DIFFERENCE:
                    registers[a] = registers[b] - registers[c];
                    break;
                case PRODUCT:
                    registers[a] = registers[b] * registers[c];
                    break;
                case IF_LESS:
                    if (registers[a] < registers[b]) {
                        step = c;
                    }
                    break;
                case JUMP:
                    step = a;
                    break;
                default:
                    break;
            }
        }

        private int callName(Layout from, int name) {
            int[] slots = from.modules[module].slots;
            if (slots[name] == UNBOUND) {
                slots[name] = from.giverOf(module, name);
                boundCount++;
            }
            int giver = slots[name];
            return from.holds(giver) ? enter(giver, from.modules[giver].values[name]) : LOST;
        }

        private int callAt(Layout from, int address) {
            int place = address / BASE - 1;
            int start = address % BASE;
            if (place < 0 || place >= from.size || !isStep(start)) {
                return LOST;
            }
            int m = from.inOrder[place];
            return from.modules[m].functionAt[start] ? enter(m, start) : LOST;
        }

        private int enter(int m, int start) {
            if (depth >= CALLS) {
                return TOO_DEEP;
            }
            backModules[depth] = module;
            backSteps[depth] = step;
            depth++;
            deepest = Math.max(deepest, depth);
            module = m;
            step = start;
            return GOES_ON;
        }

        private int goBack() {
            if (depth == 0) {
                return startNext();
            }
            depth--;
            module = backModules[depth];
            step = backSteps[depth];
            return GOES_ON;
        }

        private int startNext() {
            if (started >= startCount) {
                return DONE;
            }
            module = startModules[started];
            step = startSteps[started];
            started++;
            return GOES_ON;
        }

        private int readDatum(Layout from, int name) {
            int giver = from.giverOf(module, name);
            return from.holds(giver) ? from.modules[giver].data[name] : 0;
        }

        private void writeDatum(Layout from, int name, int value) {
            int giver = from.giverOf(module, name);
            if (from.holds(giver)) {
                from.modules[giver].data[name] = value;
            }
        }

        private void say(int value) {
            if (saidCount < SAYINGS) {
                sayings[saidCount] = value;
            }
            saidCount++;
        }
    }
}
