/** For each promise of the document: ordinary calls, the edges that it names, and wrong calls. */
public final class PromiseTest {
    private static final int NONE = LinkStation.NONE;
    private static final int NOTHING = 20;
    private static final int UNBOUND = 21;
    private static final int FUNCTION = 0;
    private static final int DATUM = 1;
    private static final int[] WRONG_MODULES = {-1, 2, 12, Integer.MAX_VALUE, Integer.MIN_VALUE};
    private static final int[] WRONG_NAMES = {-1, 64, 65, Integer.MAX_VALUE, Integer.MIN_VALUE};

    private static int wrong = 0;

    public static void main(String[] args) {
        promise1();
        promise2();
        promise3();
        promise4();
        promise5();
        promise6();
        promise7();
        promise7Forms();
        promise8();
        promise8Faults();
        promise8StaysOnFault();
        promise8Unloads();
        promise9();
        promise10();
        promise11();
        promise12();
        promise13Refuses();
        promise13Ends();
        promise13EndsOfCalls();
        promise13Steps();
        promise13Data();
        promise13Beginners();
        promise13Addresses();
        promise14();
        promise15();
        promise16();
        promise17();
        promise18();
        if (wrong != 0) {
            System.out.println(wrong + " answers are wrong");
            System.exit(1);
        }
        System.out.println("every promise holds");
    }

    private static void is(String what, int got, int want) {
        if (got != want) {
            wrong++;
            StackTraceElement caller = new Throwable().getStackTrace()[1];
            System.out.println(caller.getMethodName() + ", line " + caller.getLineNumber() + ": "
                + what + " answered " + got + ", due is " + want);
        }
    }

    private static LinkStation withModules(int count) {
        LinkStation x = new LinkStation();
        for (int m = 0; m < count; m++) {
            x.module();
        }
        return x;
    }

    /** One module, loaded, with the given steps {op, a, b, c} and its name 0 a function at step 0. */
    private static LinkStation loadedWith(int[][] steps) {
        LinkStation x = withModules(1);
        x.define(0, 0, FUNCTION, 0, 0);
        putAll(x, 0, steps);
        is("load", x.load(0, 0), 0);
        return x;
    }

    private static void putAll(LinkStation x, int m, int[][] steps) {
        for (int[] s : steps) {
            x.put(m, s[0], s.length > 1 ? s[1] : 0, s.length > 2 ? s[2] : 0, s.length > 3 ? s[3] : 0);
        }
    }

    private static void orderIs(LinkStation x, int what, int... want) {
        for (int p = 0; p < want.length; p++) {
            is("order " + what + " at " + p, x.order(p, what), want[p]);
        }
        is("order behind the last", x.order(want.length, what), NONE);
    }

    private static void promise1() {
        LinkStation full = loadedWith(new int[][] {{0, 1, 7}, {13, 1}, {12}});
        full.run(0, 10);
        LinkStation x = new LinkStation();
        is("NONE", NONE, -1);
        for (int what = 0; what <= 5; what++) {
            is("count " + what, x.count(what), 0);
        }
        is("order", x.order(0, 0), NONE);
        is("begun", x.order(0, 1), NONE);
        is("load", x.load(0, 0), NONE);
        is("comes", x.comes(0, 0), NONE);
        is("bound", x.bound(0, 0), NONE);
        is("datum", x.datum(0, 0), NONE);
        is("run", x.run(0, 10), NONE);
        is("said", x.said(0), 0);
        is("register", x.register(1), 0);
        is("fault", x.fault(0), NONE);
        is("check", x.check(), 1);
        is("the other one's modules", full.count(5), 1);
        is("the other one's register", full.register(1), 7);
    }

    private static void promise2() {
        LinkStation x = new LinkStation();
        for (int m = 0; m < 12; m++) {
            is("module", x.module(), m);
            is("modules", x.count(5), m + 1);
        }
        is("13th module", x.module(), NONE);
        is("14th module", x.module(), NONE);
        is("modules", x.count(5), 12);
        is("need of the last", x.need(11, 0), 1);
        LinkStation y = loadedWith(new int[][] {{12}});
        is("module", y.module(), 1);
        is("loaded still", y.count(4), 1);
        is("the new one is not", y.comes(1, 0), NONE);
    }

    private static void promise3() {
        LinkStation x = withModules(12);
        for (int k = 0; k < 6; k++) {
            is("need", x.need(3, 2 * k), k + 1);
            is("need again", x.need(3, 2 * k), NONE);
        }
        is("7th need", x.need(3, 1), NONE);
        x.load(3, 0);
        orderIs(x, 0, 3, 0, 2, 4, 6, 8, 10);
        is("itself", x.need(4, 4), 1);
        is("other way round", x.need(4, 3), 2);
        LinkStation y = withModules(2);
        for (int m : WRONG_MODULES) {
            is("need of no module", y.need(m, 0), NONE);
            is("need for no module", y.need(0, m), NONE);
        }
        is("need", y.need(0, 1), 1);
        is("need of the other", y.need(1, 0), 1);
    }

    private static void promise4() {
        LinkStation x = withModules(2);
        for (int how = 0; how <= 5; how++) {
            is("how " + how, x.define(0, 40 + how, FUNCTION, 0, how), how + 1);
        }
        int[] wrongHows = {-1, 6, 7, 8, Integer.MAX_VALUE, Integer.MIN_VALUE};
        for (int how : wrongHows) {
            is("how " + how, x.define(0, 1, FUNCTION, 0, how), NONE);
        }
        for (int name : WRONG_NAMES) {
            is("no name", x.define(0, name, DATUM, 0, 0), NONE);
        }
        for (int m : WRONG_MODULES) {
            is("no module", x.define(m, 1, DATUM, 0, 0), NONE);
        }
        is("kind -1", x.define(0, 1, -1, 0, 0), NONE);
        is("kind 2", x.define(0, 1, 2, 0, 0), NONE);
        is("step -1", x.define(0, 1, FUNCTION, -1, 0), NONE);
        is("step 100", x.define(0, 1, FUNCTION, 100, 0), NONE);
        is("step 99", x.define(0, 0, FUNCTION, 99, 0), 7);
        is("again", x.define(0, 0, FUNCTION, 99, 0), NONE);
        is("again as a datum", x.define(0, 0, DATUM, 5, 1), NONE);
        is("datum -1", x.define(0, 63, DATUM, -1, 0), 8);
        is("datum, least", x.define(0, 10, DATUM, Integer.MIN_VALUE, 0), 9);
        is("datum, greatest", x.define(0, 11, DATUM, Integer.MAX_VALUE, 0), 10);
        for (int k = 11; k <= 20; k++) {
            is("definition", x.define(0, k + 1, DATUM, k, 0), k);
        }
        is("21st definition", x.define(0, 60, DATUM, 0, 0), NONE);
        is("same name in another module", x.define(1, 0, DATUM, 0, 0), 1);
        x.load(0, 0);
        is("greatest", x.datum(0, 11), Integer.MAX_VALUE);
        is("least", x.datum(0, 10), Integer.MIN_VALUE);
        is("defined twice, the first one stays", x.datum(0, 0), NONE);
        is("refused one is not there", x.comes(0, 60), NOTHING);
    }

    private static void promise5() {
        LinkStation x = withModules(2);
        is("optional", x.optional(0, 0), 1);
        is("again", x.optional(0, 0), 0);
        is("in another module", x.optional(1, 0), 1);
        is("last name", x.optional(0, 63), 1);
        for (int name : WRONG_NAMES) {
            is("no name", x.optional(0, name), 0);
        }
        for (int m : WRONG_MODULES) {
            is("no module", x.optional(m, 5), 0);
        }
        x.put(0, 7, 63, 0, 0);
        is("optional, nothing", x.load(0, 0), 0);
        x.put(1, 7, 63, 0, 0);
        is("optional for another module only", x.load(1, 0), 1);
    }

    private static void promise6() {
        LinkStation x = withModules(2);
        is("none already", x.beginner(0, NONE), 1);
        is("name 0", x.beginner(0, 0), 1);
        is("name 0 again", x.beginner(0, 0), 1);
        is("name 64", x.beginner(0, 64), 0);
        is("name -2", x.beginner(0, -2), 0);
        for (int m : WRONG_MODULES) {
            is("no module", x.beginner(m, 0), 0);
            is("no module, none", x.beginner(m, NONE), 0);
        }
        is("the refused ones did nothing", x.load(0, 0), 1);
        is("its name", x.fault(2), 0);
        is("last name", x.beginner(0, 63), 1);
        is("load", x.load(0, 0), 1);
        is("its name", x.fault(2), 63);
        is("none", x.beginner(0, NONE), 1);
        is("load", x.load(0, 0), 0);
    }

    private static void promise7() {
        LinkStation x = withModules(2);
        for (int m : WRONG_MODULES) {
            is("no module", x.put(m, 12, 0, 0, 0), NONE);
        }
        for (int s = 0; s < 100; s++) {
            is("step", x.put(1, 12, 0, 0, 0), s);
        }
        is("101st step", x.put(1, 12, 0, 0, 0), NONE);
        is("all are loaded", x.load(1, 0), 0);
        is("first step of another", x.put(0, 12, 0, 0, 0), 0);
        is("op -1", x.put(0, -1, 0, 0, 0), NONE);
        is("op 15", x.put(0, 15, 0, 0, 0), NONE);
        is("op, greatest", x.put(0, Integer.MAX_VALUE, 0, 0, 0), NONE);
        is("op, least", x.put(0, Integer.MIN_VALUE, 0, 0, 0), NONE);
        is("second step", x.put(0, 14, 0, 0, 0), 1);
    }

    /** r a register, n a name, s a step, x anything: what each op asks of a, b and c. */
    private static void promise7Forms() {
        String[] forms = {"rxx", "rrx", "rrr", "rrr", "rrr", "rrs", "sxx", "nxx", "rnx", "nrx",
            "rnx", "rxx", "xxx", "rxx", "xxx"};
        for (int op = 0; op < forms.length; op++) {
            for (int at = 0; at < 3; at++) {
                int top = topOf(forms[op].charAt(at));
                is("op " + op + " with the last", putOne(op, at, top), 0);
                is("op " + op + " with 0", putOne(op, at, 0), 0);
                boolean free = forms[op].charAt(at) == 'x';
                is("op " + op + " with one more", putOne(op, at, free ? top : top + 1), free ? 0 : NONE);
                is("op " + op + " with -1", putOne(op, at, -1), free ? 0 : NONE);
                is("op " + op + " with least", putOne(op, at, Integer.MIN_VALUE), free ? 0 : NONE);
                is("op " + op + " with greatest", putOne(op, at, Integer.MAX_VALUE), free ? 0 : NONE);
            }
        }
    }

    private static int topOf(char form) {
        return form == 'r' ? 7 : form == 'n' ? 63 : form == 's' ? 99 : Integer.MAX_VALUE;
    }

    private static int putOne(int op, int at, int value) {
        LinkStation x = withModules(1);
        return x.put(0, op, at == 0 ? value : 0, at == 1 ? value : 0, at == 2 ? value : 0);
    }

    private static void promise8() {
        LinkStation x = withModules(2);
        x.define(0, 1, FUNCTION, 0, 0);
        putAll(x, 0, new int[][] {{7, 1}});
        for (int m : WRONG_MODULES) {
            is("no module", x.load(m, 0), NONE);
        }
        is("nothing is loaded", x.count(4), 0);
        is("lazy", x.load(0, 1), 0);
        is("not bound", x.bound(0, 1), UNBOUND);
        is("no way 2", x.load(0, 2), NONE);
        is("no way -1", x.load(0, -1), NONE);
        is("no such module", x.load(2, 0), NONE);
        is("what was loaded stays", x.bound(0, 1), UNBOUND);
        is("eager", x.load(0, 0), 0);
        is("bound", x.bound(0, 1), 0);
        is("another root", x.load(1, 0), 0);
        is("that alone", x.order(0, 0), 1);
        is("that alone", x.count(4), 1);
    }

    private static void promise8Faults() {
        int[][] functionUses = {{7, 5}, {10, 0, 5}};
        int[][] datumUses = {{8, 0, 5}, {9, 5, 0}};
        for (int[] use : functionUses) {
            is("function", faultOf(use, FUNCTION, false), 0);
            is("datum", faultOf(use, DATUM, false), 2);
            is("datum, optional", faultOf(use, DATUM, true), 2);
            is("nothing", faultOf(use, NONE, false), 1);
            is("nothing, optional", faultOf(use, NONE, true), 0);
        }
        for (int[] use : datumUses) {
            is("function", faultOf(use, FUNCTION, false), 2);
            is("function, optional", faultOf(use, FUNCTION, true), 2);
            is("datum", faultOf(use, DATUM, false), 0);
            is("nothing", faultOf(use, NONE, false), 1);
            is("nothing, optional", faultOf(use, NONE, true), 0);
        }
        int[][] noUses = {{0, 5, 5, 5}, {1, 5, 5}, {2, 5, 5, 5}, {3, 5, 5, 5}, {4, 5, 5, 5},
            {5, 5, 5, 5}, {6, 5, 5, 5}, {11, 5, 5, 5}, {12, 5, 5, 5}, {13, 5, 5, 5}, {14, 5, 5, 5}};
        for (int[] use : noUses) {
            is("no name is used", faultOf(use, NONE, false), 0);
        }
    }

    /** Loads lazily and eagerly a module with one step, name 5 being given by the one it needs. */
    private static int faultOf(int[] step, int kind, boolean isOptional) {
        LinkStation x = withModules(2);
        x.need(0, 1);
        putAll(x, 0, new int[][] {step});
        x.define(1, 5, kind, 1, 0);
        if (isOptional) {
            x.optional(0, 5);
        }
        int eager = x.load(0, 0);
        is("lazy like eager", x.load(0, 1), eager);
        return eager;
    }

    private static void promise8StaysOnFault() {
        LinkStation x = withModules(3);
        x.need(0, 1);
        x.define(0, 0, FUNCTION, 0, 0);
        x.define(1, 1, DATUM, 3, 0);
        putAll(x, 0, new int[][] {{0, 2, 9}, {9, 1, 2}, {7, 7}});
        x.optional(0, 7);
        putAll(x, 2, new int[][] {{7, 8}});
        is("load", x.load(0, 1), 0);
        is("run", x.run(0, 9), 3);
        is("load with a fault", x.load(2, 0), 1);
        orderIs(x, 0, 0, 1);
        orderIs(x, 1, 1, 0);
        is("datum", x.datum(1, 1), 9);
        is("slot", x.bound(0, 7), NOTHING);
        is("no slot", x.bound(2, 8), NONE);
        is("comes", x.comes(2, 8), NONE);
        is("said again", x.run(0, 9), 3);
        is("load anew", x.load(0, 1), 0);
        is("datum", x.datum(1, 1), 3);
        is("slot", x.bound(0, 7), UNBOUND);
    }

    private static void promise8Unloads() {
        for (int call = 0; call < 10; call++) {
            LinkStation x = withModules(3);
            x.need(2, 1);
            x.define(0, 0, FUNCTION, 0, 0);
            x.define(2, 0, FUNCTION, 0, 0);
            x.optional(2, 0);
            x.load(0, 0);
            is("a call that does nothing", tellNothing(x, call), call == 2 || call == 3 ? 0 : NONE);
            is("loaded still", x.count(4), 1);
            tell(x, call % 5);
            is("loaded after telling, call " + call, x.count(4), 0);
            is("order", x.order(0, 0), NONE);
            is("begun", x.order(0, 1), NONE);
            is("comes", x.comes(0, 0), NONE);
            is("bound", x.bound(0, 0), NONE);
            is("run", x.run(0, 5), NONE);
            is("load", x.load(0, 0), 0);
        }
    }

    private static void tell(LinkStation x, int call) {
        switch (call) {
            case 0: is("need", x.need(2, 0), 2); break;
            case 1: is("define", x.define(2, 9, DATUM, 1, 0), 2); break;
            case 2: is("optional", x.optional(2, 9), 1); break;
            case 3: is("beginner", x.beginner(2, NONE), 1); break;
            default: is("put", x.put(2, 12, 0, 0, 0), 0); break;
        }
    }

    private static int tellNothing(LinkStation x, int call) {
        switch (call) {
            case 0: return x.need(2, 1);
            case 1: return x.define(2, 0, DATUM, 1, 0);
            case 2: return x.optional(2, 0);
            case 3: return x.beginner(2, 64);
            case 4: return x.put(2, 15, 0, 0, 0);
            case 5: return x.need(2, 3);
            case 6: return x.define(2, 9, FUNCTION, 100, 0);
            case 7: return x.load(3, 0);
            case 8: return x.load(0, 2);
            default: return x.run(1, 5);
        }
    }

    private static void promise9() {
        LinkStation x = withModules(4);
        x.need(0, 2);
        x.need(0, 1);
        x.need(2, 3);
        putAll(x, 3, new int[][] {{7, 33}});
        putAll(x, 1, new int[][] {{12}, {8, 0, 11}, {9, 12, 0}});
        is("load", x.load(0, 0), 1);
        faultIs(x, 1, 1, 11);
        x.define(3, 11, DATUM, 0, 0);
        faultIs(x, 1, 1, 11);
        is("load of nothing", x.load(9, 0), NONE);
        faultIs(x, 1, 1, 11);
        x.define(3, 12, FUNCTION, 0, 0);
        is("load", x.load(0, 0), 2);
        faultIs(x, 1, 2, 12);
        x.beginner(1, 13);
        is("load", x.load(0, 1), 1);
        faultIs(x, 1, NONE, 13);
        x.define(1, 13, DATUM, 0, 4);
        is("load", x.load(0, 1), 2);
        faultIs(x, 1, NONE, 13);
        putAll(x, 2, new int[][] {{10, 0, 14}});
        is("load", x.load(0, 0), 1);
        faultIs(x, 2, 0, 14);
        is("load without a fault", x.load(3, 0), 1);
        faultIs(x, 3, 0, 33);
        x.optional(3, 33);
        is("load without a fault", x.load(3, 0), 0);
        faultIs(x, NONE, NONE, NONE);
    }

    private static void faultIs(LinkStation x, int module, int step, int name) {
        is("module of the fault", x.fault(0), module);
        is("step of the fault", x.fault(1), step);
        is("name of the fault", x.fault(2), name);
        is("fault(3)", x.fault(3), NONE);
        is("fault(-1)", x.fault(-1), NONE);
        is("fault of the greatest", x.fault(Integer.MAX_VALUE), NONE);
    }

    private static void promise10() {
        LinkStation x = withModules(8);
        x.need(5, 3);
        x.need(5, 1);
        x.need(3, 4);
        x.need(3, 5);
        x.need(3, 3);
        x.need(1, 0);
        x.need(1, 4);
        x.need(4, 6);
        x.need(6, 3);
        x.need(0, 6);
        x.load(5, 0);
        orderIs(x, 0, 5, 3, 1, 4, 0, 6);
        orderIs(x, 1, 6, 4, 3, 0, 1, 5);
        is("modules loaded", x.count(4), 6);
        is("place -1", x.order(-1, 0), NONE);
        is("place, greatest", x.order(Integer.MAX_VALUE, 0), NONE);
        is("place, least", x.order(Integer.MIN_VALUE, 1), NONE);
        is("what 2", x.order(0, 2), NONE);
        is("what -1", x.order(0, -1), NONE);
        x.load(7, 0);
        orderIs(x, 0, 7);
        orderIs(x, 1, 7);
        LinkStation chain = withModules(12);
        for (int m = 0; m < 12; m++) {
            chain.need(m, (m + 1) % 12);
        }
        chain.load(4, 0);
        orderIs(chain, 0, 4, 5, 6, 7, 8, 9, 10, 11, 0, 1, 2, 3);
        orderIs(chain, 1, 3, 2, 1, 0, 11, 10, 9, 8, 7, 6, 5, 4);
    }

    private static void promise11() {
        LinkStation x = withModules(5);
        x.need(0, 3);
        x.need(0, 2);
        x.need(0, 1);
        // module 4 is not loaded: what it defines is not met
        for (int name = 0; name < 10; name++) {
            x.define(4, name, FUNCTION, 0, 0);
        }
        x.define(1, 0, FUNCTION, 0, 0);
        x.define(2, 0, FUNCTION, 0, 0);
        x.define(3, 1, FUNCTION, 0, 1);
        x.define(2, 1, FUNCTION, 0, 1);
        x.define(1, 1, FUNCTION, 0, 0);
        x.define(2, 2, DATUM, 0, 1);
        x.define(1, 2, DATUM, 0, 1);
        x.define(3, 3, DATUM, 0, 4);
        x.define(1, 3, DATUM, 0, 1);
        x.define(2, 4, DATUM, 0, 3);
        x.define(1, 4, DATUM, 0, 2);
        x.define(2, 5, DATUM, 0, 5);
        x.define(0, 6, DATUM, 0, 1);
        x.define(1, 6, DATUM, 0, 0);
        x.load(0, 0);
        comeTo(x, 0, 2, 2, 2, 2);
        comeTo(x, 1, 1, 1, 1, 1);
        comeTo(x, 2, 2, 2, 2, 2);
        comeTo(x, 3, 1, 1, 1, 3);
        comeTo(x, 4, 1, 1, 2, 1);
        comeTo(x, 5, NOTHING, NOTHING, 2, NOTHING);
        comeTo(x, 6, 1, 1, 1, 1);
        comeTo(x, 7, NOTHING, NOTHING, NOTHING, NOTHING);
        x.load(0, 1);
        x.load(3, 0);
        is("what another root loaded is not met", x.comes(3, 0), NOTHING);
        is("what another root loaded is not met", x.comes(3, 6), NOTHING);
        is("its own", x.comes(3, 1), 3);
        x.load(0, 0);
        is("not loaded", x.comes(4, 0), NONE);
        is("no module", x.comes(5, 0), NONE);
        is("module -1", x.comes(-1, 0), NONE);
        is("module 12", x.comes(12, 0), NONE);
        is("module, greatest", x.comes(Integer.MAX_VALUE, 0), NONE);
        for (int name : WRONG_NAMES) {
            is("no name", x.comes(0, name), NONE);
        }
    }

    private static void comeTo(LinkStation x, int name, int... want) {
        for (int m = 0; m < want.length; m++) {
            is("name " + name + " in module " + m, x.comes(m, name), want[m]);
        }
    }

    private static LinkStation slotStation(int lazy) {
        LinkStation x = withModules(3);
        x.need(0, 1);
        x.define(0, 0, FUNCTION, 0, 0);
        x.define(0, 3, FUNCTION, 5, 0);
        x.define(1, 1, FUNCTION, 0, 0);
        x.optional(0, 2);
        x.optional(0, 8);
        x.optional(0, 9);
        putAll(x, 0, new int[][] {{7, 1}, {7, 1}, {7, 2}, {8, 0, 8}, {10, 0, 9}, {7, 3}, {12}});
        putAll(x, 1, new int[][] {{12}, {7, 1}});
        is("load", x.load(0, lazy), 0);
        return x;
    }

    private static void promise12() {
        LinkStation x = slotStation(0);
        slotsAre(x, 1, NOTHING, 0, 1);
        is("run", x.run(0, 50), 3);
        slotsAre(x, 1, NOTHING, 0, 1);
        is("slots bound while it ran", x.count(2), 0);
        LinkStation y = slotStation(1);
        slotsAre(y, UNBOUND, UNBOUND, UNBOUND, UNBOUND);
        is("run", y.run(0, 0), 1);
        slotsAre(y, UNBOUND, UNBOUND, UNBOUND, UNBOUND);
        is("run", y.run(0, 50), 3);
        slotsAre(y, 1, NOTHING, UNBOUND, UNBOUND);
        is("slots bound while it ran", y.count(2), 2);
        is("no run", y.run(50, 50), NONE);
        slotsAre(y, 1, NOTHING, UNBOUND, UNBOUND);
        is("run again from unbound", y.run(0, 1), 1);
        slotsAre(y, 1, UNBOUND, UNBOUND, UNBOUND);
        is("slots bound while it ran", y.count(2), 1);
        is("run another", y.run(3, 200), 2);
        slotsAre(y, UNBOUND, UNBOUND, 0, UNBOUND);
        is("load anew", y.load(0, 1), 0);
        slotsAre(y, UNBOUND, UNBOUND, UNBOUND, UNBOUND);
        is("other uses have none", y.bound(0, 8), NONE);
        is("other uses have none", y.bound(0, 9), NONE);
        is("unused", y.bound(0, 0), NONE);
        is("not loaded", y.bound(2, 1), NONE);
        is("no module", y.bound(3, 1), NONE);
        is("module -1", y.bound(-1, 1), NONE);
        is("module 12", y.bound(12, 1), NONE);
        for (int name : WRONG_NAMES) {
            is("no name", y.bound(0, name), NONE);
        }
    }

    private static void slotsAre(LinkStation x, int one, int two, int three, int inner) {
        is("slot of 1", x.bound(0, 1), one);
        is("slot of 2", x.bound(0, 2), two);
        is("slot of 3", x.bound(0, 3), three);
        is("slot of 1 in module 1", x.bound(1, 1), inner);
        is("check", x.check(), 1);
    }

    private static void promise13Refuses() {
        LinkStation x = withModules(2);
        x.need(0, 1);
        x.define(0, 0, FUNCTION, 0, 0);
        x.define(0, 1, DATUM, 0, 0);
        x.define(1, 2, FUNCTION, 0, 4);
        x.define(1, 3, FUNCTION, 0, 2);
        x.define(0, 4, FUNCTION, 1, 4);
        putAll(x, 0, new int[][] {{0, 3, 5}, {13, 3}, {12}});
        putAll(x, 1, new int[][] {{12}});
        is("not loaded", x.run(0, 9), NONE);
        x.load(0, 0);
        is("run", x.run(0, 9), 0);
        int[] wrongSteps = {-1, 5001, Integer.MAX_VALUE, Integer.MIN_VALUE};
        for (int steps : wrongSteps) {
            is("steps", x.run(0, steps), NONE);
        }
        for (int name : WRONG_NAMES) {
            is("no name", x.run(name, 9), NONE);
        }
        is("a datum", x.run(1, 9), NONE);
        is("hidden in another", x.run(2, 9), NONE);
        is("nothing", x.run(5, 9), NONE);
        is("nothing is changed: register", x.register(3), 5);
        is("nothing is changed: steps", x.count(0), 3);
        is("nothing is changed: said", x.said(0), 5);
        is("own in another", x.run(3, 5000), 0);
        is("steps", x.count(0), 1);
        is("hidden in the root", x.run(4, 9), 0);
        is("registers are 0 at first", x.said(0), 0);
        x.load(1, 0);
        is("hidden in the root", x.run(2, 9), 0);
        is("not there from this root", x.run(0, 9), NONE);
    }

    private static void promise13Ends() {
        LinkStation x = loadedWith(new int[][] {{0, 0, 1}, {12}, {14}});
        is("steps enough", x.run(0, 2), 0);
        is("made", x.count(0), 2);
        is("one too few", x.run(0, 1), 1);
        is("made", x.count(0), 1);
        is("register", x.register(0), 1);
        is("none granted", x.run(0, 0), 1);
        is("made", x.count(0), 0);
        is("register", x.register(0), 0);
        LinkStation end = loadedWith(new int[][] {{7, 0}, {12}});
        end.define(0, 1, FUNCTION, 2, 0);
        putAll(end, 0, new int[][] {{7, 2}, {12}});
        end.define(0, 2, FUNCTION, 4, 0);
        putAll(end, 0, new int[][] {{14}, {12}});
        is("load", end.load(0, 0), 0);
        is("end within a call", end.run(1, 9), 0);
        is("made", end.count(0), 2);
        LinkStation behind = loadedWith(new int[][] {{0, 0, 1}});
        is("behind the last", behind.run(0, 9), 4);
        is("made", behind.count(0), 1);
        is("looked at before the steps", behind.run(0, 1), 4);
        is("but not before it is there", behind.run(0, 0), 1);
        LinkStation jump = loadedWith(new int[][] {{6, 99}, {12}});
        is("jump behind the last", jump.run(0, 1), 4);
        is("made", jump.count(0), 1);
        LinkStation branch = loadedWith(new int[][] {{5, 0, 0, 99}, {0, 1, 1}, {5, 0, 1, 99}, {12}});
        is("branch behind the last", branch.run(0, 3), 4);
        is("made", branch.count(0), 3);
        LinkStation loop = loadedWith(new int[][] {{6, 0}});
        is("loop", loop.run(0, 5000), 1);
        is("made", loop.count(0), 5000);
        LinkStation empty = loadedWith(new int[][] {});
        is("no steps", empty.run(0, 0), 4);
    }

    private static void promise13EndsOfCalls() {
        for (int extra = 0; extra <= 1; extra++) {
            callsWithinEachOther(7, 1, 100 + extra);
            callsWithinEachOther(11, 3, 100 + extra);
        }
        LinkStation deep = deepThen(7, 1);
        is("nothing, at depth 100", deep.run(0, 5000), 3);
        is("deepest", deep.count(3), 100);
        is("bound to nothing", deep.bound(0, 1), NOTHING);
        LinkStation deepAt = deepThen(11, 7);
        is("no function, at depth 100", deepAt.run(0, 5000), 3);
        LinkStation deepCall = deepThen(7, 2);
        is("a call, at depth 100", deepCall.run(0, 5000), 2);
        is("its slot is bound", deepCall.bound(0, 2), 0);
        is("slots bound", deepCall.count(2), 2);
        is("the step is made", deepCall.count(0), 504);
        LinkStation onlyBehind = loadedWith(new int[][] {{7, 0}});
        onlyBehind.define(0, 1, FUNCTION, 1, 0);
        onlyBehind.put(0, 7, 2, 0, 0);
        onlyBehind.define(0, 2, FUNCTION, 99, 0);
        onlyBehind.load(0, 0);
        is("call of a function behind the last", onlyBehind.run(1, 1), 4);
        is("made", onlyBehind.count(0), 1);
        is("that call counts", onlyBehind.count(3), 1);
    }

    /** Function 1 counts down in register 0 and calls itself, by name or by its address. */
    private static void callsWithinEachOther(int op, int a, int depth) {
        LinkStation x = withModules(1);
        x.define(0, 0, FUNCTION, 0, 0);
        x.define(0, 1, FUNCTION, 5, 0);
        putAll(x, 0, new int[][] {{0, 0, depth}, {0, 2, 1}, {10, 3, 1}, {op, a}, {12},
            {3, 0, 0, 2}, {5, 1, 0, 8}, {12}, {op, a}, {12}});
        x.load(0, 1);
        is(depth + " calls within each other", x.run(0, 5000), depth <= 100 ? 0 : 2);
        is("deepest", x.count(3), 100);
        is("steps made", x.count(0), depth <= 100 ? 4 + 99 * 3 + 3 + 99 + 1 : 4 + 100 * 3);
    }

    /** Function 0 calls itself until 100 calls are within each other, then makes one step more. */
    private static LinkStation deepThen(int op, int a) {
        LinkStation x = withModules(1);
        x.define(0, 0, FUNCTION, 0, 0);
        x.define(0, 2, FUNCTION, 0, 0);
        x.optional(0, 1);
        putAll(x, 0, new int[][] {{0, 2, 100}, {0, 3, 1}, {5, 1, 2, 4}, {op, a}, {2, 1, 1, 3}, {7, 0}});
        is("load", x.load(0, 1), 0);
        is("steps before the last one", x.run(0, 503), 1);
        is("deepest", x.count(3), 100);
        return x;
    }

    private static void promise13Steps() {
        int big = Integer.MAX_VALUE;
        LinkStation x = loadedWith(new int[][] {
            {0, 0, big}, {0, 1, 2}, {1, 2, 0}, {2, 3, 0, 1}, {3, 4, 1, 3}, {4, 5, 0, 0}, {0, 6, -5},
            {5, 6, 1, 9}, {14}, {5, 1, 6, 8}, {5, 1, 1, 8}, {6, 13}, {14}, {3, 7, 6, 0}, {13, 7}, {12}});
        is("run", x.run(0, 99), 0);
        is("set", x.register(0), big);
        is("copy", x.register(2), big);
        is("sum runs over", x.register(3), Integer.MIN_VALUE + 1);
        is("difference runs over", x.register(4), 2 - (Integer.MIN_VALUE + 1));
        is("product runs over", x.register(5), 1);
        is("less than", x.register(7), -5 - big);
        is("said", x.said(0), -5 - big);
        is("made", x.count(0), 14);
        LinkStation same = loadedWith(new int[][] {{0, 0, 3}, {2, 0, 0, 0}, {4, 0, 0, 0}, {3, 1, 2, 0}, {12}});
        same.run(0, 9);
        is("a register with itself", same.register(0), 36);
        is("difference's order", same.register(1), -36);
    }

    private static void promise13Data() {
        LinkStation x = withModules(2);
        x.need(0, 1);
        x.define(0, 0, FUNCTION, 0, 0);
        x.define(0, 1, DATUM, 10, 4);
        x.define(1, 1, DATUM, 20, 0);
        x.define(1, 2, FUNCTION, 0, 0);
        x.optional(0, 9);
        putAll(x, 0, new int[][] {{8, 0, 1}, {13, 0}, {7, 2}, {8, 0, 1}, {13, 0}, {0, 5, 77}, {9, 1, 5},
            {0, 4, 4}, {9, 9, 4}, {8, 4, 9}, {13, 4}, {7, 2}, {10, 4, 9}, {13, 4}, {12}});
        putAll(x, 1, new int[][] {{8, 1, 1}, {13, 1}, {0, 2, 1}, {2, 1, 1, 2}, {9, 1, 1}, {12}});
        x.load(0, 0);
        for (int again = 0; again < 2; again++) {
            is("run", x.run(0, 99), 0);
            int[] want = {10, 20, 10, 0, 21, 0};
            for (int k = 0; k < want.length; k++) {
                is("said " + k, x.said(k), want[k]);
            }
            is("said in all", x.count(1), want.length);
            is("hidden datum", x.datum(0, 1), 77);
            is("open datum", x.datum(1, 1), 22);
        }
    }

    private static void promise13Beginners() {
        LinkStation x = withModules(4);
        x.need(0, 1);
        x.need(0, 2);
        x.need(1, 3);
        for (int m = 0; m < 4; m++) {
            putAll(x, m, new int[][] {{0, 1, m + 1}, {13, 0}, {2, 0, 0, 1}, {12}});
            x.define(m, 10 + m, FUNCTION, 0, 0);
            x.define(m, 20, FUNCTION, 0, 4);
        }
        x.beginner(0, 20);
        x.beginner(1, 20);
        x.beginner(2, 30);
        x.optional(2, 30);
        x.beginner(3, 12);
        x.load(0, 1);
        is("run", x.run(13, 99), 0);
        int[] want = {0, 3, 5, 6};
        for (int k = 0; k < want.length; k++) {
            is("said " + k, x.said(k), want[k]);
        }
        is("said in all", x.count(1), 4);
        is("register goes on", x.register(0), 10);
        is("no calls within", x.count(3), 0);
        is("steps", x.count(0), 16);
        is("stops in a beginner", x.run(13, 7), 1);
        is("register", x.register(0), 5);
        x.put(3, 14, 0, 0, 0);
        x.define(3, 40, FUNCTION, 4, 0);
        x.beginner(3, 40);
        x.load(0, 0);
        is("a beginner ends it", x.run(13, 99), 0);
        is("steps", x.count(0), 1);
        x.beginner(3, NONE);
        x.beginner(1, 41);
        x.define(1, 41, FUNCTION, 99, 4);
        x.load(0, 0);
        is("a beginner comes behind the last", x.run(13, 99), 4);
        is("steps", x.count(0), 0);
        LinkStation many = withModules(12);
        for (int m = 0; m < 12; m++) {
            putAll(many, m, new int[][] {{0, 1, 1}, {2, 0, 0, 1}, {12}});
            many.define(m, m, FUNCTION, 0, 0);
            many.beginner(m, m);
            many.need(m, (m + 1) % 12);
        }
        many.load(0, 0);
        is("twelve beginners and the entry", many.run(5, 39), 0);
        is("each was called", many.register(0), 13);
        LinkStation own = loadedWith(new int[][] {{0, 1, 1}, {13, 0}, {2, 0, 0, 1}, {12}});
        own.beginner(0, 0);
        own.load(0, 0);
        is("beginner and entry in one", own.run(0, 99), 0);
        is("said twice", own.count(1), 2);
        is("second", own.said(1), 1);
    }

    private static void promise13Addresses() {
        LinkStation x = withModules(2);
        x.need(1, 0);
        x.define(1, 0, FUNCTION, 0, 0);
        putAll(x, 1, new int[][] {{10, 0, 1}, {13, 0}, {11, 0}, {12}});
        x.define(0, 1, FUNCTION, 3, 1);
        x.define(0, 2, FUNCTION, 1, 4);
        x.define(0, 3, DATUM, 2, 0);
        x.define(0, 4, FUNCTION, 99, 0);
        putAll(x, 0, new int[][] {{12}, {0, 7, 1}, {12}, {0, 7, 2}, {12}});
        x.load(1, 0);
        is("run", x.run(0, 9), 0);
        is("address", x.said(0), 2003);
        is("called", x.register(7), 2);
        int[] addresses = {2001, 2003, 2099, 1000, 2000, 2002, 2004, 2100, 3000, 3001, 1001, 1, 0, -1, -999,
            -2001, 2001 + 4096, Integer.MAX_VALUE, Integer.MIN_VALUE, 13000, 1999};
        int[] ends = {0, 0, 4, 2, 3, 3, 3, 3, 3, 3, 3, 3, 3, 3, 3, 3, 3, 3, 3, 3, 3};
        for (int k = 0; k < addresses.length; k++) {
            is("call at " + addresses[k], callAt(addresses[k]), ends[k]);
        }
        LinkStation zero = withModules(1);
        zero.define(0, 0, FUNCTION, 0, 0);
        zero.optional(0, 5);
        putAll(zero, 0, new int[][] {{0, 1, 9}, {10, 1, 5}, {11, 1}});
        zero.load(0, 0);
        is("call at the address of nothing", zero.run(0, 9), 3);
        is("it is 0", zero.register(1), 0);
        is("the step is made", zero.count(0), 3);
    }

    private static int callAt(int address) {
        LinkStation x = withModules(3);
        x.need(1, 0);
        x.define(1, 0, FUNCTION, 0, 0);
        putAll(x, 1, new int[][] {{0, 0, address}, {11, 0}, {12}});
        x.define(0, 1, FUNCTION, 3, 1);
        x.define(0, 2, FUNCTION, 1, 4);
        x.define(0, 3, DATUM, 2, 0);
        x.define(0, 4, FUNCTION, 99, 0);
        putAll(x, 0, new int[][] {{12}, {0, 7, 1}, {12}, {0, 7, 2}, {12}});
        x.define(2, 9, FUNCTION, 0, 0);
        x.define(2, 10, FUNCTION, 1, 0);
        x.load(1, 0);
        return x.run(0, 5000);
    }

    private static void promise14() {
        LinkStation x = slotStation(1);
        int[] wrongWhats = {-1, 6, Integer.MAX_VALUE, Integer.MIN_VALUE};
        for (int what : wrongWhats) {
            is("count", x.count(what), NONE);
        }
        for (int what = 0; what <= 3; what++) {
            is("no run", x.count(what), 0);
        }
        is("loaded", x.count(4), 2);
        is("modules", x.count(5), 3);
        is("run", x.run(0, 50), 3);
        countsAre(x, 5, 0, 2, 1, 2, 3);
        is("load keeps them", x.load(0, 0), 0);
        countsAre(x, 5, 0, 2, 1, 2, 3);
        x.put(2, 12, 0, 0, 0);
        countsAre(x, 5, 0, 2, 1, 0, 3);
        is("run that is none", x.run(0, 50), NONE);
        countsAre(x, 5, 0, 2, 1, 0, 3);
        x.load(0, 0);
        is("run", x.run(0, 50), 3);
        countsAre(x, 5, 0, 0, 1, 2, 3);
    }

    private static void countsAre(LinkStation x, int... want) {
        for (int what = 0; what < want.length; what++) {
            is("count " + what, x.count(what), want[what]);
        }
    }

    private static void promise15() {
        LinkStation x = withModules(1);
        x.define(0, 0, FUNCTION, 0, 0);
        x.define(0, 1, FUNCTION, 5, 0);
        putAll(x, 0, new int[][] {{0, 1, 1}, {2, 0, 0, 1}, {13, 0}, {5, 2, 0, 1}, {12}, {0, 3, -4}, {13, 3}, {12}});
        x.load(0, 0);
        is("nothing yet", x.said(0), 0);
        is("run", x.run(0, 1 + 3 * 70), 1);
        is("said", x.count(1), 70);
        for (int k = 0; k < 60; k++) {
            is("said " + k, x.said(k), k + 1);
        }
        for (int k = 60; k < 72; k++) {
            is("behind the first 60", x.said(k), 0);
        }
        is("said(-1)", x.said(-1), 0);
        is("said, greatest", x.said(Integer.MAX_VALUE), 0);
        is("said, least", x.said(Integer.MIN_VALUE), 0);
        is("run", x.run(1, 9), 0);
        is("said", x.said(0), -4);
        is("an earlier run's is gone", x.said(1), 0);
        x.put(0, 12, 0, 0, 0);
        is("it stays when nothing is loaded", x.said(0), -4);
    }

    private static void promise16() {
        LinkStation x = loadedWith(new int[][] {{0, 0, 5}, {0, 7, -6}, {12}, {12}});
        is("no run", x.register(0), 0);
        is("run", x.run(0, 9), 0);
        is("register 0", x.register(0), 5);
        is("register 1", x.register(1), 0);
        is("register 7", x.register(7), -6);
        is("register 8", x.register(8), 0);
        is("register -1", x.register(-1), 0);
        is("register, greatest", x.register(Integer.MAX_VALUE), 0);
        is("register, least", x.register(Integer.MIN_VALUE), 0);
        x.define(0, 3, FUNCTION, 3, 0);
        is("it stays when nothing is loaded", x.register(7), -6);
        x.load(0, 0);
        is("and when something is loaded", x.register(7), -6);
        x.run(3, 9);
        is("another run", x.register(7), 0);
    }

    private static void promise17() {
        LinkStation x = withModules(3);
        x.need(0, 1);
        x.define(0, 0, FUNCTION, 0, 0);
        x.define(0, 1, DATUM, -3, 1);
        x.define(1, 1, DATUM, 4, 0);
        x.define(1, 2, DATUM, 6, 4);
        x.define(2, 1, DATUM, 5, 0);
        putAll(x, 0, new int[][] {{0, 0, 8}, {9, 1, 0}, {12}});
        is("not loaded", x.datum(0, 1), NONE);
        x.load(0, 0);
        dataAre(x, -3, 4, 6);
        x.run(0, 9);
        dataAre(x, -3, 8, 6);
        is("run", x.run(0, 1), 1);
        dataAre(x, -3, 4, 6);
        x.run(0, 9);
        is("run that is none", x.run(1, 1), NONE);
        dataAre(x, -3, 8, 6);
        x.load(0, 0);
        dataAre(x, -3, 4, 6);
        is("a function", x.datum(0, 0), NONE);
        is("not defined there", x.datum(0, 2), NONE);
        is("not loaded", x.datum(2, 1), NONE);
        is("no module", x.datum(3, 1), NONE);
        is("module -1", x.datum(-1, 1), NONE);
        is("module 12", x.datum(12, 1), NONE);
        for (int name : WRONG_NAMES) {
            is("no name", x.datum(0, name), NONE);
        }
        x.run(0, 9);
        x.optional(2, 2);
        is("not loaded any more", x.datum(1, 1), NONE);
        x.load(0, 0);
        dataAre(x, -3, 4, 6);
    }

    private static void dataAre(LinkStation x, int first, int second, int third) {
        is("datum", x.datum(0, 1), first);
        is("datum", x.datum(1, 1), second);
        is("datum", x.datum(1, 2), third);
    }

    private static void promise18() {
        for (int lazy = 0; lazy <= 1; lazy++) {
            LinkStation x = slotStation(lazy);
            is("check", x.check(), 1);
            for (int steps = 0; steps < 9; steps++) {
                x.run(0, steps);
                is("check after a run", x.check(), 1);
            }
            x.load(1, 1 - lazy);
            is("check", x.check(), 1);
            x.define(0, 30, DATUM, 0, 0);
            is("check with nothing loaded", x.check(), 1);
        }
    }
}
