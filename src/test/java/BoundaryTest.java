/**
 * The boundary cases that the promises 1 to 18 name: one method for each sentence or part of one, with
 * what a refused call leaves as it was. A wrong answer is told with the words that it breaks.
 */
public final class BoundaryTest {
    private static final int NONE = LinkStation.NONE;
    private static final int NOTHING = 20;
    private static final int UNBOUND = 21;
    private static final int FUNCTION = 0;
    private static final int DATUM = 1;
    private static final int HIDDEN = 4;
    private static final int MOST = Integer.MAX_VALUE;
    private static final int LEAST = Integer.MIN_VALUE;
    private static final int[] EXTREMES = {LEAST, -1000, -2, -1, 0, 1, 2, 5, 6, 7, 8, 11, 12, 13, 14, 15, 19, 20, 21,
        59, 60, 61, 63, 64, 99, 100, 101, 999, 1000, 5000, 5001, MOST};
    /** Numbers that no module bears when there are two. */
    private static final int[] NO_MODULES = {-1, 2, 3, 11, 12, 13, MOST, LEAST};
    private static final int[] NO_NAMES = {-1, -2, 64, 65, 127, 128, MOST, LEAST};

    private static String sentence = "";
    private static int wrong = 0;

    public static void main(String[] args) {
        promises1To6();
        promises7To12();
        promises13To18();
        nothingThrows();
        if (wrong != 0) {
            System.out.println(wrong + " answers are wrong");
            System.exit(1);
        }
        System.out.println("the promises hold at their boundaries");
    }

    private static void promises1To6() {
        aNewObjectHasNoModules();
        aNewObjectHasNothingLoaded();
        newObjectsShareNothing();
        moduleNumbers();
        moduleIsFull();
        needOfItself();
        needOfNoSuchOnes();
        needThatItHas();
        needWhenItHasSix();
        defineOfNoSuchModule();
        defineOfNoSuchName();
        defineOfNoSuchKind();
        defineWithAnotherHow();
        defineWithAnotherStep();
        defineADatumOfAnyValue();
        defineANameThatItHas();
        defineWhenItHasTwenty();
        optionalTwice();
        optionalOfNoSuch();
        beginnerNone();
        beginnerThatIsSoAlready();
        beginnerOfNoSuch();
    }

    private static void promises7To12() {
        putOfNoSuchModule();
        putOfNoSuchOp();
        putWithArguments();
        putWhenItHasAHundred();
        loadOfNoSuchModule();
        loadInNoSuchWay();
        loadTellsTheFault();
        faultOfTheLatestLoad();
        faultWithoutLoad();
        faultOfABeginner();
        faultOfOthers();
        orderOfNoSuchPlace();
        orderOfNoSuchWhat();
        comesToNothing();
        comesInNoSuch();
        boundToNothing();
        boundWhereNoSlotIs();
        boundAsTheLatestRunLeftIt();
    }

    private static void promises13To18() {
        runWithNothingLoaded();
        runOfNoSuchName();
        runOfNothingOrADatum();
        runWithSteps();
        runWithTheMostSteps();
        refusedRunChangesNothing();
        countBeforeARun();
        countOfOthers();
        countOfTheLatestRun();
        countOfCallsWithinEachOther();
        countOfSlotsBound();
        countOfModules();
        saidBehindTheFirstSixty();
        saidWhereNoneIs();
        registerOfNoSuch();
        registerAsTheLatestRunLeftIt();
        datumOfNoSuch();
        datumAsItIs();
        datumSinceItWasLoaded();
        checkAlwaysTells1();
    }

    private static void of(String words) {
        sentence = words;
    }

    private static void is(int got, int want) {
        if (got != want) {
            wrong++;
            StackTraceElement caller = new Throwable().getStackTrace()[1];
            System.out.println("\"" + sentence + "\" (" + caller.getMethodName() + ", line "
                + caller.getLineNumber() + "): answered " + got + ", due is " + want);
        }
    }

    private static LinkStation station(int modules) {
        LinkStation x = new LinkStation();
        for (int m = 0; m < modules; m++) {
            x.module();
        }
        return x;
    }

    private static int[] row(int... numbers) {
        return numbers;
    }

    /** Steps as rows {op, a, b, c}; what a row leaves out is 0. */
    private static void steps(LinkStation x, int m, int[]... rows) {
        for (int[] r : rows) {
            x.put(m, r[0], r.length > 1 ? r[1] : 0, r.length > 2 ? r[2] : 0, r.length > 3 ? r[3] : 0);
        }
    }

    /** One module, loaded eagerly, whose name 0 is the function that begins at its step 0. */
    private static LinkStation program(int[]... rows) {
        LinkStation x = station(1);
        x.define(0, 0, FUNCTION, 0, 0);
        steps(x, 0, rows);
        is(x.load(0, 0), 0);
        return x;
    }

    /** Two modules are there, and module 0 is loaded. */
    private static LinkStation two() {
        LinkStation x = station(2);
        x.define(0, 0, FUNCTION, 0, 0);
        steps(x, 0, row(12));
        is(x.load(0, 0), 0);
        return x;
    }

    private static void isLoadedStill(LinkStation x) {
        is(x.count(4), 1);
        is(x.order(0, 0), 0);
        is(x.order(0, 1), 0);
        is(x.run(0, 1), 0);
    }

    private static void aNewObjectHasNoModules() {
        of("LinkStation(): No modules");
        LinkStation x = new LinkStation();
        is(x.count(5), 0);
        is(x.need(0, 0), NONE);
        is(x.define(0, 0, FUNCTION, 0, 0), NONE);
        is(x.optional(0, 0), 0);
        is(x.beginner(0, 0), 0);
        is(x.beginner(0, NONE), 0);
        is(x.put(0, 12, 0, 0, 0), NONE);
        is(x.load(0, 0), NONE);
        is(x.load(0, 1), NONE);
        is(x.module(), 0);
        is(x.put(0, 12, 0, 0, 0), 0);
        is(x.need(0, 0), 1);
        is(x.define(0, 0, FUNCTION, 0, 0), 1);
        is(x.optional(0, 0), 1);
    }

    private static void aNewObjectHasNothingLoaded() {
        of("LinkStation(): nothing loaded");
        for (int modules = 0; modules < 2; modules++) {
            LinkStation x = station(modules);
            is(x.count(4), 0);
            is(x.order(0, 0), NONE);
            is(x.order(0, 1), NONE);
            is(x.comes(0, 0), NONE);
            is(x.bound(0, 0), NONE);
            is(x.datum(0, 0), NONE);
            is(x.run(0, 0), NONE);
            is(x.check(), 1);
        }
    }

    private static void newObjectsShareNothing() {
        of("LinkStation(): a new object");
        LinkStation full = station(12);
        for (int m = 0; m < 12; m++) {
            full.define(m, m, DATUM, 9, 0);
            full.define(m, 40, FUNCTION, 0, HIDDEN);
            full.beginner(m, 40);
            full.optional(m, 50);
            full.need(m, (m + 1) % 12);
            steps(full, m, row(0, 0, 5), row(13, 0), row(12), row(7, 50));
        }
        full.load(0, 0);
        is(full.run(40, 99), 0);
        aNewObjectHasNoModules();
        LinkStation x = station(1);
        is(x.load(0, 0), 0);
        is(x.comes(0, 0), NOTHING);
        is(x.bound(0, 50), NONE);
        is(x.order(1, 0), NONE);
        is(x.register(0), 0);
        is(x.said(0), 0);
        is(x.datum(0, 0), NONE);
        is(full.count(1), 13);
        is(full.register(0), 5);
        is(full.datum(11, 11), 9);
    }

    private static void moduleNumbers() {
        of("module(): One more module: its number");
        LinkStation x = new LinkStation();
        for (int m = 0; m < 12; m++) {
            is(x.module(), m);
            is(x.count(5), m + 1);
        }
        LinkStation y = two();
        is(y.module(), 2);
        isLoadedStill(y);
        is(y.comes(2, 0), NONE);
        is(y.load(2, 0), 0);
        is(y.order(0, 0), 2);
    }

    private static void moduleIsFull() {
        of("module(): NONE when there are 12");
        LinkStation x = station(12);
        x.define(11, 0, DATUM, 4, 0);
        is(x.load(11, 0), 0);
        for (int again = 0; again < 3; again++) {
            is(x.module(), NONE);
            is(x.count(5), 12);
        }
        is(x.datum(11, 0), 4);
        is(x.count(4), 1);
        is(x.load(12, 0), NONE);
    }

    private static void needOfItself() {
        of("need(): A module needs another one (or itself): how many it needs");
        LinkStation x = station(2);
        is(x.need(1, 1), 1);
        is(x.need(1, 0), 2);
        is(x.need(0, 1), 1);
        is(x.need(0, 0), 2);
        is(x.load(1, 0), 0);
        is(x.order(0, 0), 1);
        is(x.order(1, 0), 0);
        is(x.order(2, 0), NONE);
        is(x.order(0, 1), 0);
        is(x.order(1, 1), 1);
    }

    private static void needOfNoSuchOnes() {
        of("need(): NONE when there are no such ones");
        LinkStation x = two();
        for (int m : NO_MODULES) {
            is(x.need(m, 0), NONE);
            is(x.need(0, m), NONE);
            is(x.need(m, m), NONE);
        }
        isLoadedStill(x);
        is(x.need(0, 1), 1);
        is(x.module(), 2);
        is(x.need(0, 2), 2);
    }

    private static void needThatItHas() {
        of("need(): NONE when it needs that already");
        LinkStation x = two();
        x.need(1, 0);
        x.need(1, 1);
        x.load(0, 0);
        is(x.need(1, 0), NONE);
        is(x.need(1, 1), NONE);
        isLoadedStill(x);
        is(x.need(0, 1), 1);
    }

    private static void needWhenItHasSix() {
        of("need(): NONE when it needs 6");
        LinkStation x = station(12);
        for (int k = 1; k <= 5; k++) {
            is(x.need(0, k), k);
        }
        is(x.need(0, 5), NONE);
        is(x.need(0, 0), 6);
        is(x.load(0, 0), 0);
        is(x.need(0, 6), NONE);
        is(x.need(0, 11), NONE);
        is(x.need(0, 5), NONE);
        is(x.count(4), 6);
        is(x.need(1, 6), 1);
    }

    private static void defineOfNoSuchModule() {
        of("define(): NONE when there is no such module");
        LinkStation x = two();
        for (int m : NO_MODULES) {
            is(x.define(m, 5, FUNCTION, 0, 0), NONE);
            is(x.define(m, 5, DATUM, 0, 0), NONE);
        }
        isLoadedStill(x);
        is(x.module(), 2);
        is(x.define(2, 5, DATUM, 0, 0), 1);
        is(x.define(1, 5, DATUM, 0, 0), 1);
    }

    private static void defineOfNoSuchName() {
        of("define(): NONE when there is no such name");
        LinkStation x = two();
        for (int name : NO_NAMES) {
            is(x.define(1, name, FUNCTION, 0, 0), NONE);
            is(x.define(1, name, DATUM, 0, 0), NONE);
        }
        isLoadedStill(x);
        is(x.define(1, 0, DATUM, 0, 0), 1);
        is(x.define(1, 63, DATUM, 0, 0), 2);
    }

    private static void defineOfNoSuchKind() {
        of("define(): NONE when there is no such kind");
        LinkStation x = two();
        int[] kinds = {-1, 2, 3, MOST, LEAST};
        for (int kind : kinds) {
            is(x.define(1, 5, kind, 0, 0), NONE);
        }
        isLoadedStill(x);
        is(x.define(1, 5, DATUM, 0, 0), 1);
        is(x.define(1, 6, FUNCTION, 0, 0), 2);
    }

    private static void defineWithAnotherHow() {
        of("define(): NONE when how is not 0 .. 5");
        LinkStation x = two();
        int[] hows = {-1, 6, 7, 8, 9, MOST, LEAST, LEAST + 1};
        for (int how : hows) {
            is(x.define(1, 5, FUNCTION, 0, how), NONE);
            is(x.define(1, 5, DATUM, 0, how), NONE);
        }
        isLoadedStill(x);
        for (int how = 0; how <= 5; how++) {
            is(x.define(1, 5 + how, DATUM, 0, how), how + 1);
        }
    }

    private static void defineWithAnotherStep() {
        of("define(): NONE when a step is not 0 .. 99");
        LinkStation x = two();
        int[] none = {-1, 100, 101, 1000, MOST, LEAST};
        for (int step : none) {
            is(x.define(1, 5, FUNCTION, step, 0), NONE);
        }
        isLoadedStill(x);
        is(x.define(1, 5, FUNCTION, 0, 0), 1);
        is(x.define(1, 6, FUNCTION, 99, 0), 2);
    }

    private static void defineADatumOfAnyValue() {
        of("define(): a datum (1; v its value)");
        LinkStation x = station(1);
        int[] values = {LEAST, -1, 0, 99, 100, MOST};
        for (int k = 0; k < values.length; k++) {
            is(x.define(0, k, DATUM, values[k], 0), k + 1);
        }
        x.load(0, 0);
        for (int k = 0; k < values.length; k++) {
            is(x.datum(0, k), values[k]);
        }
    }

    private static void defineANameThatItHas() {
        of("define(): NONE when it has that name");
        LinkStation x = two();
        x.define(1, 5, DATUM, 3, 0);
        x.load(0, 0);
        is(x.define(1, 5, DATUM, 3, 0), NONE);
        is(x.define(1, 5, DATUM, 4, 1), NONE);
        is(x.define(1, 5, FUNCTION, 0, 0), NONE);
        isLoadedStill(x);
        is(x.define(0, 5, DATUM, 8, 0), 2);
        is(x.define(1, 6, DATUM, 5, 0), 2);
        x.load(1, 0);
        is(x.datum(1, 5), 3);
    }

    private static void defineWhenItHasTwenty() {
        of("define(): NONE when it has 20");
        LinkStation x = two();
        for (int k = 0; k < 19; k++) {
            is(x.define(1, 10 + k, k % 2, k, 0), k + 1);
        }
        is(x.define(1, 10, DATUM, 0, 0), NONE);
        is(x.define(1, 63, DATUM, 77, 0), 20);
        x.load(0, 0);
        is(x.define(1, 0, DATUM, 0, 0), NONE);
        is(x.define(1, 40, FUNCTION, 0, HIDDEN), NONE);
        is(x.define(1, 10, DATUM, 0, 0), NONE);
        isLoadedStill(x);
        is(x.load(1, 0), 0);
        is(x.comes(1, 40), NOTHING);
        is(x.comes(1, 0), NOTHING);
        is(x.datum(1, 63), 77);
        is(x.define(0, 40, DATUM, 0, 0), 2);
    }

    private static void optionalTwice() {
        of("optional(): 1; 0, and nothing is done, when it is");
        LinkStation x = two();
        is(x.optional(1, 5), 1);
        x.load(0, 0);
        is(x.optional(1, 5), 0);
        isLoadedStill(x);
        is(x.optional(0, 5), 1);
        is(x.optional(1, 4), 1);
        for (int name = 0; name < 64; name++) {
            is(x.optional(1, name), name == 4 || name == 5 ? 0 : 1);
        }
    }

    private static void optionalOfNoSuch() {
        of("optional(): 0, and nothing is done, when there is no such module or name");
        LinkStation x = two();
        for (int m : NO_MODULES) {
            is(x.optional(m, 5), 0);
        }
        for (int name : NO_NAMES) {
            is(x.optional(1, name), 0);
        }
        isLoadedStill(x);
        is(x.optional(1, 0), 1);
        is(x.optional(1, 63), 1);
        is(x.module(), 2);
        is(x.optional(2, 5), 1);
    }

    private static void beginnerNone() {
        of("beginner(): NONE: it has none any more");
        LinkStation x = program(row(13, 0), row(12));
        is(x.beginner(0, 0), 1);
        x.load(0, 0);
        x.run(0, 9);
        is(x.count(1), 2);
        is(x.beginner(0, NONE), 1);
        x.load(0, 0);
        x.run(0, 9);
        is(x.count(1), 1);
        is(x.beginner(0, 9), 1);
        is(x.load(0, 0), 1);
        is(x.beginner(0, NONE), 1);
        is(x.load(0, 0), 0);
    }

    private static void beginnerThatIsSoAlready() {
        of("beginner(): also what is so already: 1");
        LinkStation x = station(1);
        is(x.beginner(0, NONE), 1);
        is(x.beginner(0, NONE), 1);
        is(x.beginner(0, 63), 1);
        is(x.beginner(0, 63), 1);
        is(x.load(0, 0), 1);
        is(x.fault(2), 63);
        is(x.beginner(0, 0), 1);
        is(x.load(0, 0), 1);
        is(x.fault(2), 0);
    }

    private static void beginnerOfNoSuch() {
        of("beginner(): 0, and nothing is done, when there is no such module or name");
        LinkStation x = two();
        for (int m : NO_MODULES) {
            is(x.beginner(m, 0), 0);
            is(x.beginner(m, NONE), 0);
        }
        for (int name : NO_NAMES) {
            if (name != NONE) {
                is(x.beginner(0, name), 0);
            }
        }
        isLoadedStill(x);
        is(x.beginner(1, 0), 1);
        is(x.beginner(1, 64), 0);
        is(x.load(1, 0), 1);
        is(x.fault(2), 0);
    }

    private static void putOfNoSuchModule() {
        of("put(): NONE when there is no such module");
        LinkStation x = two();
        for (int m : NO_MODULES) {
            is(x.put(m, 12, 0, 0, 0), NONE);
        }
        isLoadedStill(x);
        is(x.put(1, 12, 0, 0, 0), 0);
        is(x.put(0, 12, 0, 0, 0), 1);
        is(x.module(), 2);
        is(x.put(2, 12, 0, 0, 0), 0);
    }

    private static void putOfNoSuchOp() {
        of("put(): NONE when there is no such op");
        LinkStation x = two();
        int[] none = {-1, 15, 16, 100, MOST, LEAST};
        for (int op : none) {
            is(x.put(1, op, 0, 0, 0), NONE);
        }
        isLoadedStill(x);
        for (int op = 0; op <= 14; op++) {
            is(x.put(1, op, 0, 0, 0), op);
        }
    }

    /** r a register, n a name, s a step, x anything. */
    private static void putWithArguments() {
        String[] forms = {"rxx", "rrx", "rrr", "rrr", "rrr", "rrs", "sxx", "nxx", "rnx", "nrx", "rnx", "rxx", "xxx",
            "rxx", "xxx"};
        LinkStation x = two();
        for (int op = 0; op < forms.length; op++) {
            of("put(): NONE when there is no such register, name or step (0 .. 99) as op " + op + " must have");
            for (int at = 0; at < 3; at++) {
                char form = forms[op].charAt(at);
                int last = form == 'r' ? 7 : form == 'n' ? 63 : 99;
                int[] outside = {-1, last + 1, last + 2, 4096, MOST, LEAST};
                for (int value : outside) {
                    if (form != 'x') {
                        is(putAt(x, op, at, value), NONE);
                    } else {
                        is(putAt(station(2), op, at, value), 0);
                    }
                }
                is(putAt(station(2), op, at, 0), 0);
                is(putAt(station(2), op, at, last), 0);
            }
        }
        isLoadedStill(x);
        is(x.put(1, 12, 0, 0, 0), 0);
    }

    private static int putAt(LinkStation x, int op, int at, int value) {
        return x.put(1, op, at == 0 ? value : 0, at == 1 ? value : 0, at == 2 ? value : 0);
    }

    private static void putWhenItHasAHundred() {
        of("put(): NONE when it has 100");
        LinkStation x = two();
        for (int s = 0; s < 100; s++) {
            is(x.put(1, s % 15, 0, 0, 0), s);
        }
        x.load(0, 0);
        for (int op = 0; op < 15; op++) {
            is(x.put(1, op, 0, 0, 0), NONE);
        }
        isLoadedStill(x);
        is(x.put(0, 12, 0, 0, 0), 1);
    }

    private static void loadOfNoSuchModule() {
        of("load(): NONE, and nothing is done, when there is no such module");
        LinkStation x = two();
        x.run(0, 1);
        for (int m : NO_MODULES) {
            is(x.load(m, 0), NONE);
            is(x.load(m, 1), NONE);
        }
        is(x.count(0), 1);
        isLoadedStill(x);
        is(x.load(1, 0), 0);
        is(x.order(0, 0), 1);
    }

    private static void loadInNoSuchWay() {
        of("load(): NONE, and nothing is done, when there is no such way");
        LinkStation x = program(row(7, 0), row(12));
        is(x.load(0, 1), 0);
        int[] ways = {-1, 2, 3, MOST, LEAST};
        for (int way : ways) {
            is(x.load(0, way), NONE);
            is(x.bound(0, 0), UNBOUND);
        }
        x.run(0, 1);
        for (int way : ways) {
            is(x.load(0, way), NONE);
            is(x.bound(0, 0), 0);
        }
        is(x.count(4), 1);
        is(x.load(0, 0), 0);
    }

    private static void loadTellsTheFault() {
        of("load(): 0, or the fault");
        for (int lazy = 0; lazy < 2; lazy++) {
            LinkStation x = station(2);
            is(x.load(0, lazy), 0);
            steps(x, 0, row(8, 0, 5));
            is(x.load(0, lazy), 1);
            x.define(0, 5, FUNCTION, 0, 0);
            is(x.load(0, lazy), 2);
            is(x.load(1, lazy), 0);
        }
    }

    private static LinkStation faulty() {
        LinkStation x = station(3);
        x.need(2, 1);
        steps(x, 1, row(12), row(9, 33, 0));
        x.define(0, 0, FUNCTION, 0, 0);
        return x;
    }

    private static void faultIs(LinkStation x, int module, int step, int name) {
        is(x.fault(0), module);
        is(x.fault(1), step);
        is(x.fault(2), name);
    }

    private static void faultOfTheLatestLoad() {
        of("fault(): Of the fault that the latest load() (that was not NONE) had; NONE when it had none");
        LinkStation x = faulty();
        is(x.load(2, 0), 1);
        faultIs(x, 1, 1, 33);
        is(x.load(3, 0), NONE);
        is(x.load(0, 2), NONE);
        faultIs(x, 1, 1, 33);
        x.define(1, 33, DATUM, 0, 0);
        x.put(0, 12, 0, 0, 0);
        x.module();
        faultIs(x, 1, 1, 33);
        is(x.load(0, 0), 0);
        faultIs(x, NONE, NONE, NONE);
        is(x.load(2, 0), 0);
        x.put(2, 7, 63, 0, 0);
        is(x.load(0, 0), 0);
        x.run(0, 9);
        is(x.load(2, 1), 1);
        faultIs(x, 2, 0, 63);
        x.run(0, 9);
        faultIs(x, 2, 0, 63);
        x.define(2, 63, DATUM, 0, 0);
        is(x.load(2, 0), 2);
        faultIs(x, 2, 0, 63);
    }

    private static void faultWithoutLoad() {
        of("fault(): NONE when it had none");
        LinkStation x = faulty();
        faultIs(x, NONE, NONE, NONE);
        is(x.load(9, 0), NONE);
        faultIs(x, NONE, NONE, NONE);
        is(x.load(0, 0), 0);
        faultIs(x, NONE, NONE, NONE);
    }

    private static void faultOfABeginner() {
        of("fault(): the step (1; NONE for a beginner)");
        LinkStation x = faulty();
        x.beginner(1, 0);
        is(x.load(1, 0), 1);
        faultIs(x, 1, NONE, 0);
        x.define(1, 0, DATUM, 0, 0);
        is(x.load(1, 0), 2);
        faultIs(x, 1, NONE, 0);
    }

    private static void faultOfOthers() {
        of("fault(): NONE for others");
        LinkStation x = faulty();
        x.load(2, 0);
        for (int what : EXTREMES) {
            is(x.fault(what), what == 0 ? 1 : what == 1 ? 1 : what == 2 ? 33 : NONE);
        }
    }

    private static LinkStation ring() {
        LinkStation x = station(12);
        for (int m = 0; m < 12; m++) {
            x.need(m, (m + 1) % 12);
        }
        is(x.load(0, 0), 0);
        return x;
    }

    private static void orderOfNoSuchPlace() {
        of("order(): NONE when there is none such");
        LinkStation full = ring();
        LinkStation one = two();
        for (int place : EXTREMES) {
            is(full.order(place, 0), place >= 0 && place < 12 ? place : NONE);
            is(full.order(place, 1), place >= 0 && place < 12 ? 11 - place : NONE);
            is(one.order(place, 0), place == 0 ? 0 : NONE);
            is(one.order(place, 1), place == 0 ? 0 : NONE);
        }
        is(full.load(5, 0), 0);
        is(full.order(11, 0), 4);
        is(full.order(0, 1), 4);
        full.module();
        full.optional(0, 0);
        is(full.order(0, 0), NONE);
    }

    private static void orderOfNoSuchWhat() {
        of("order(): the order (what 0), or that in which they are begun (1); NONE when there is none such");
        LinkStation x = ring();
        for (int what : EXTREMES) {
            is(x.order(0, what), what == 0 ? 0 : what == 1 ? 11 : NONE);
        }
    }

    private static void comesToNothing() {
        of("comes(): 20 for nothing");
        LinkStation x = two();
        x.define(1, 5, FUNCTION, 0, 0);
        x.load(0, 0);
        is(x.comes(0, 0), 0);
        is(x.comes(0, 1), NOTHING);
        is(x.comes(0, 5), NOTHING);
        is(x.comes(0, 63), NOTHING);
        LinkStation last = ring();
        last.define(11, 63, DATUM, 0, 0);
        is(last.load(0, 0), 0);
        is(last.comes(0, 63), 11);
        is(last.comes(11, 63), 11);
    }

    private static void comesInNoSuch() {
        of("comes(): NONE when that is not loaded, or there is no such name");
        LinkStation x = two();
        for (int m : NO_MODULES) {
            is(x.comes(m, 0), NONE);
        }
        is(x.comes(1, 0), NONE);
        for (int name : NO_NAMES) {
            is(x.comes(0, name), NONE);
            is(x.comes(1, name), NONE);
        }
        is(x.comes(0, 0), 0);
        x.load(1, 0);
        is(x.comes(0, 0), NONE);
        is(x.comes(1, 0), NOTHING);
    }

    private static void boundToNothing() {
        of("bound(): 20 for nothing, 21 when it is not bound");
        LinkStation x = station(1);
        x.define(0, 0, FUNCTION, 0, 0);
        x.optional(0, 63);
        steps(x, 0, row(7, 63), row(7, 0));
        x.load(0, 0);
        is(x.bound(0, 63), NOTHING);
        is(x.bound(0, 0), 0);
        x.load(0, 1);
        is(x.bound(0, 63), UNBOUND);
        is(x.bound(0, 0), UNBOUND);
        is(x.run(0, 1), 3);
        is(x.bound(0, 63), NOTHING);
        is(x.bound(0, 0), UNBOUND);
    }

    private static void boundWhereNoSlotIs() {
        of("bound(): NONE when there is no such slot");
        LinkStation x = two();
        x.define(0, 1, DATUM, 0, 0);
        steps(x, 0, row(7, 0), row(8, 0, 1), row(9, 1, 0), row(10, 0, 0));
        x.define(0, 2, FUNCTION, 0, 0);
        x.beginner(0, 2);
        steps(x, 1, row(7, 3));
        is(x.bound(0, 0), NONE);
        is(x.load(0, 0), 0);
        is(x.bound(0, 0), 0);
        is(x.bound(0, 1), NONE);
        is(x.bound(0, 2), NONE);
        is(x.bound(1, 3), NONE);
        is(x.bound(1, 0), NONE);
        for (int m : NO_MODULES) {
            is(x.bound(m, 0), NONE);
        }
        for (int name : NO_NAMES) {
            is(x.bound(0, name), NONE);
        }
        is(x.load(1, 0), 1);
        is(x.bound(1, 3), NONE);
        x.optional(1, 3);
        is(x.bound(0, 0), NONE);
        is(x.load(1, 0), 0);
        is(x.bound(1, 3), NOTHING);
        is(x.bound(0, 0), NONE);
    }

    private static void boundAsTheLatestRunLeftIt() {
        of("bound(): as loaded, or as the latest run since left it");
        LinkStation x = station(1);
        x.define(0, 0, FUNCTION, 0, 0);
        x.define(0, 1, FUNCTION, 2, 0);
        x.define(0, 2, FUNCTION, 4, 0);
        steps(x, 0, row(7, 2), row(12), row(7, 1), row(12), row(12));
        x.load(0, 1);
        is(x.run(0, 9), 0);
        is(x.bound(0, 2), 0);
        is(x.bound(0, 1), UNBOUND);
        is(x.run(2, 9), 0);
        is(x.bound(0, 2), UNBOUND);
        is(x.run(1, 9), 1);
        is(x.bound(0, 1), 0);
        is(x.run(0, 5001), NONE);
        is(x.bound(0, 1), 0);
        is(x.load(0, 2), NONE);
        is(x.bound(0, 1), 0);
        is(x.load(0, 1), 0);
        is(x.bound(0, 1), UNBOUND);
        is(x.load(0, 0), 0);
        is(x.bound(0, 1), 0);
        is(x.bound(0, 2), 0);
        is(x.load(0, 1), 0);
        is(x.bound(0, 2), UNBOUND);
    }

    private static void runWithNothingLoaded() {
        of("run(): NONE when nothing is loaded");
        LinkStation x = station(1);
        x.define(0, 0, FUNCTION, 0, 0);
        steps(x, 0, row(12));
        is(x.run(0, 9), NONE);
        is(x.load(0, 0), 0);
        is(x.run(0, 9), 0);
        x.put(0, 12, 0, 0, 0);
        is(x.run(0, 9), NONE);
        x.put(0, 7, 9, 0, 0);
        is(x.load(0, 0), 1);
        is(x.run(0, 9), NONE);
    }

    private static void runOfNoSuchName() {
        of("run(): NONE when there is no such name");
        LinkStation x = two();
        x.define(0, 63, FUNCTION, 0, 0);
        x.load(0, 0);
        for (int name : NO_NAMES) {
            is(x.run(name, 9), NONE);
        }
        is(x.run(0, 9), 0);
        is(x.run(63, 9), 0);
    }

    private static void runOfNothingOrADatum() {
        of("run(): NONE when it comes to nothing in the root, or to a datum");
        LinkStation x = two();
        x.need(0, 1);
        x.define(0, 1, DATUM, 0, HIDDEN);
        x.define(1, 1, FUNCTION, 0, 0);
        x.define(1, 2, FUNCTION, 0, HIDDEN);
        x.define(1, 3, FUNCTION, 0, 0);
        x.define(1, 4, DATUM, 0, 0);
        x.define(0, 5, FUNCTION, 0, 1);
        x.define(1, 5, DATUM, 0, 0);
        steps(x, 1, row(12));
        is(x.load(0, 0), 0);
        is(x.run(1, 9), NONE);
        is(x.run(2, 9), NONE);
        is(x.run(3, 9), 0);
        is(x.run(4, 9), NONE);
        is(x.run(5, 9), NONE);
        is(x.run(9, 9), NONE);
        is(x.load(1, 0), 0);
        is(x.run(1, 9), 0);
        is(x.run(2, 9), 0);
        is(x.run(0, 9), NONE);
    }

    private static void runWithSteps() {
        of("run(): NONE when they are not 0 .. 5000");
        LinkStation x = program(row(6, 0));
        for (int granted : EXTREMES) {
            boolean fits = granted >= 0 && granted <= 5000;
            is(x.run(0, granted), fits ? 1 : NONE);
            if (fits) {
                is(x.count(0), granted);
            }
        }
        is(x.run(0, 4999), 1);
        is(x.count(0), 4999);
    }

    private static void runWithTheMostSteps() {
        of("run(): Runs with an entry and so many steps granted: how it ends");
        LinkStation x = program(row(0, 1, 2498), row(0, 2, 1), row(2, 0, 0, 2), row(5, 0, 1, 2), row(13, 0), row(12));
        is(x.run(0, 5000), 0);
        is(x.count(0), 5000);
        is(x.said(0), 2498);
        is(x.run(0, 4999), 1);
        is(x.count(0), 4999);
        is(x.said(0), 2498);
        is(x.run(0, 4998), 1);
        is(x.count(1), 0);
    }

    private static void refusedRunChangesNothing() {
        of("run(): NONE, and nothing is changed");
        LinkStation x = station(2);
        x.need(0, 1);
        x.define(0, 0, FUNCTION, 0, 0);
        x.define(1, 1, DATUM, 5, 0);
        x.define(1, 2, FUNCTION, 0, 0);
        steps(x, 0, row(0, 0, 7), row(9, 1, 0), row(13, 0), row(7, 2), row(12));
        steps(x, 1, row(12));
        x.load(0, 1);
        is(x.run(0, 9), 0);
        int[][] refused = {row(0, -1), row(0, 5001), row(-1, 9), row(64, 9), row(1, 9), row(9, 9)};
        for (int[] call : refused) {
            is(x.run(call[0], call[1]), NONE);
            is(x.count(0), 6);
            is(x.count(1), 1);
            is(x.count(2), 1);
            is(x.count(3), 1);
            is(x.count(4), 2);
            is(x.said(0), 7);
            is(x.register(0), 7);
            is(x.datum(1, 1), 7);
            is(x.bound(0, 2), 1);
        }
    }

    /** Says something, then calls name 1, which comes back at once. */
    private static LinkStation callerOfOne() {
        LinkStation x = station(1);
        x.define(0, 0, FUNCTION, 0, 0);
        x.define(0, 1, FUNCTION, 3, 0);
        steps(x, 0, row(13, 0), row(7, 1), row(12), row(12));
        return x;
    }

    private static void countBeforeARun() {
        of("count(): 0 when there was none");
        LinkStation x = callerOfOne();
        is(x.load(0, 1), 0);
        is(x.run(9, 9), NONE);
        is(x.run(0, 5001), NONE);
        for (int what = 0; what < 4; what++) {
            is(x.count(what), 0);
        }
        is(x.count(4), 1);
        is(x.count(5), 1);
        is(x.run(0, 9), 0);
        is(x.count(0), 4);
        for (int what = 1; what < 6; what++) {
            is(x.count(what), 1);
        }
    }

    private static void countOfOthers() {
        of("count(): NONE for others");
        LinkStation x = program(row(13, 0), row(12));
        x.run(0, 9);
        int[] want = {2, 1, 0, 0, 1, 1};
        for (int what : EXTREMES) {
            is(x.count(what), what >= 0 && what < 6 ? want[what] : NONE);
        }
    }

    private static void countOfTheLatestRun() {
        of("count(): Of the latest run");
        LinkStation x = callerOfOne();
        x.load(0, 1);
        x.run(0, 9);
        x.load(0, 0);
        is(x.count(0), 4);
        is(x.count(1), 1);
        is(x.count(2), 1);
        is(x.count(3), 1);
        x.put(0, 12, 0, 0, 0);
        is(x.count(0), 4);
        is(x.count(2), 1);
        x.load(0, 1);
        is(x.run(1, 0), 1);
        for (int what = 0; what < 4; what++) {
            is(x.count(what), 0);
        }
    }

    private static void countOfCallsWithinEachOther() {
        of("count(): the greatest number of calls within each other, those by the run itself not counted (3)");
        LinkStation x = station(1);
        x.define(0, 0, FUNCTION, 0, 0);
        x.define(0, 1, FUNCTION, 3, 0);
        x.define(0, 2, FUNCTION, 5, 0);
        x.beginner(0, 1);
        steps(x, 0, row(7, 2), row(7, 2), row(12), row(7, 2), row(12), row(12));
        x.load(0, 0);
        is(x.run(2, 99), 0);
        is(x.count(3), 1);
        x.beginner(0, 2);
        x.load(0, 0);
        is(x.run(2, 99), 0);
        is(x.count(3), 0);
        is(x.run(0, 99), 0);
        is(x.count(3), 1);
        x.define(0, 3, FUNCTION, 6, 0);
        steps(x, 0, row(7, 1), row(7, 2), row(12));
        x.load(0, 0);
        is(x.run(3, 99), 0);
        is(x.count(3), 2);
        is(x.run(2, 99), 0);
        is(x.count(3), 0);
    }

    private static void countOfSlotsBound() {
        of("count(): slots that were bound while it ran (2)");
        LinkStation x = station(2);
        x.need(0, 1);
        x.define(0, 0, FUNCTION, 0, 0);
        x.define(1, 1, FUNCTION, 0, 0);
        x.define(1, 2, FUNCTION, 2, 0);
        x.optional(1, 9);
        steps(x, 0, row(7, 1), row(7, 1), row(7, 2), row(7, 2), row(12));
        steps(x, 1, row(7, 2), row(12), row(12));
        x.load(0, 1);
        is(x.run(0, 99), 0);
        is(x.count(2), 3);
        is(x.run(0, 99), 0);
        is(x.count(2), 3);
        is(x.run(2, 99), 0);
        is(x.count(2), 0);
        x.load(0, 0);
        is(x.run(0, 99), 0);
        is(x.count(2), 0);
    }

    private static void countOfModules() {
        of("count(): modules loaded (4); modules there are (5)");
        LinkStation x = ring();
        is(x.count(4), 12);
        is(x.count(5), 12);
        x.module();
        is(x.count(5), 12);
        x.beginner(0, NONE);
        is(x.count(4), 0);
        LinkStation y = two();
        is(y.count(4), 1);
        is(y.count(5), 2);
        y.put(1, 7, 9, 0, 0);
        is(y.count(4), 0);
        is(y.load(1, 0), 1);
        is(y.count(4), 0);
        is(y.load(0, 0), 0);
        is(y.load(1, 0), 1);
        is(y.count(4), 1);
    }

    /** Says 1, 2, .. so often as the steps that are granted allow: three steps for each. */
    private static LinkStation talker() {
        return program(row(0, 1, 1), row(2, 0, 0, 1), row(13, 0), row(6, 1));
    }

    private static void saidBehindTheFirstSixty() {
        of("said(): 0 when it was said behind the first 60");
        LinkStation x = talker();
        int[] times = {0, 1, 59, 60, 61, 62, 120, 1666};
        for (int n : times) {
            is(x.run(0, 1 + 3 * n), 1);
            is(x.count(1), n);
            for (int k = 0; k < 130; k++) {
                is(x.said(k), k < n && k < 60 ? k + 1 : 0);
            }
        }
        is(x.run(0, 3), 1);
        is(x.count(1), 1);
        is(x.said(0), 1);
        is(x.said(1), 0);
    }

    private static void saidWhereNoneIs() {
        of("said(): counted from 0; 0 when there is none such");
        LinkStation x = talker();
        for (int k : EXTREMES) {
            is(x.said(k), 0);
        }
        x.run(0, 1 + 3 * 60);
        for (int k : EXTREMES) {
            is(x.said(k), k >= 0 && k < 60 ? k + 1 : 0);
        }
        x.run(0, 1 + 3 * 6);
        for (int k : EXTREMES) {
            is(x.said(k), k >= 0 && k < 6 ? k + 1 : 0);
        }
        x.put(0, 12, 0, 0, 0);
        is(x.said(5), 6);
    }

    private static void registerOfNoSuch() {
        of("register(): 0 when there is none such, or no run");
        LinkStation x = program(row(0, 0, 10), row(0, 1, 11), row(0, 2, 12), row(0, 3, 13),
            row(0, 4, 14), row(0, 5, 15), row(0, 6, 16), row(0, 7, 17), row(12));
        for (int r : EXTREMES) {
            is(x.register(r), 0);
        }
        is(x.run(0, 99), 0);
        for (int r : EXTREMES) {
            is(x.register(r), r >= 0 && r < 8 ? 10 + r : 0);
        }
    }

    private static void registerAsTheLatestRunLeftIt() {
        of("register(): A register as the latest run left it");
        LinkStation x = program(row(0, 7, LEAST), row(11, 0), row(12));
        is(x.run(0, 9), 3);
        is(x.register(7), LEAST);
        is(x.load(0, 1), 0);
        is(x.register(7), LEAST);
        x.put(0, 7, 9, 0, 0);
        is(x.register(7), LEAST);
        is(x.load(0, 1), 1);
        is(x.run(0, 9), NONE);
        is(x.register(7), LEAST);
        x.optional(0, 9);
        is(x.load(0, 1), 0);
        is(x.run(0, 0), 1);
        is(x.register(7), 0);
    }

    private static void datumOfNoSuch() {
        of("datum(): NONE when there is none such");
        LinkStation x = two();
        x.define(0, 5, DATUM, 7, 0);
        x.define(1, 5, DATUM, 8, 0);
        is(x.datum(0, 5), NONE);
        x.load(0, 0);
        is(x.datum(0, 5), 7);
        is(x.datum(1, 5), NONE);
        is(x.datum(0, 0), NONE);
        is(x.datum(0, 6), NONE);
        for (int m : NO_MODULES) {
            is(x.datum(m, 5), NONE);
        }
        for (int name : NO_NAMES) {
            is(x.datum(0, name), NONE);
        }
        x.load(1, 0);
        is(x.datum(0, 5), NONE);
        is(x.datum(1, 5), 8);
    }

    private static void datumAsItIs() {
        of("datum(): The datum that a loaded module defines by a name");
        LinkStation x = station(3);
        x.need(0, 1);
        x.need(1, 2);
        x.define(0, 0, FUNCTION, 0, 0);
        x.define(0, 63, DATUM, 1, 1);
        x.define(1, 63, DATUM, 2, 0);
        x.define(2, 63, DATUM, 3, HIDDEN);
        x.define(2, 1, FUNCTION, 0, 0);
        steps(x, 0, row(0, 1, MOST), row(9, 63, 1), row(0, 1, LEAST), row(7, 1), row(12));
        steps(x, 2, row(9, 63, 1), row(12));
        x.load(0, 0);
        is(x.datum(0, 63), 1);
        is(x.datum(1, 63), 2);
        is(x.datum(2, 63), 3);
        is(x.run(0, 9), 0);
        is(x.datum(0, 63), 1);
        is(x.datum(1, 63), MOST);
        is(x.datum(2, 63), LEAST);
    }

    private static void datumSinceItWasLoaded() {
        of("datum(): as the latest run since it was loaded left it, or its first value");
        LinkStation x = station(2);
        x.define(0, 0, FUNCTION, 0, 0);
        x.define(0, 6, FUNCTION, 2, 0);
        x.define(0, 5, DATUM, 4, 0);
        steps(x, 0, row(0, 1, 9), row(9, 5, 1), row(12));
        steps(x, 1, row(7, 9));
        is(x.load(0, 0), 0);
        is(x.datum(0, 5), 4);
        is(x.run(0, 9), 0);
        is(x.datum(0, 5), 9);
        is(x.run(0, -1), NONE);
        is(x.datum(0, 5), 9);
        is(x.load(0, -1), NONE);
        is(x.datum(0, 5), 9);
        is(x.load(1, 0), 1);
        is(x.datum(0, 5), 9);
        is(x.load(0, 1), 0);
        is(x.datum(0, 5), 4);
        is(x.run(0, 2), 1);
        is(x.datum(0, 5), 9);
        is(x.run(6, 9), 0);
        is(x.datum(0, 5), 4);
        is(x.run(0, 9), 0);
        x.optional(0, 9);
        is(x.datum(0, 5), NONE);
        x.load(0, 0);
        is(x.datum(0, 5), 4);
    }

    private static void checkAlwaysTells1() {
        of("check(): Whether each bound slot has what its name comes to: 1");
        is(new LinkStation().check(), 1);
        for (int lazy = 0; lazy < 2; lazy++) {
            LinkStation x = station(3);
            x.need(0, 1);
            x.define(0, 0, FUNCTION, 0, 0);
            x.define(1, 1, FUNCTION, 0, 1);
            x.define(2, 1, FUNCTION, 0, 0);
            x.optional(0, 9);
            steps(x, 0, row(7, 1), row(7, 9));
            steps(x, 1, row(12));
            steps(x, 2, row(12));
            is(x.check(), 1);
            is(x.load(0, lazy), 0);
            is(x.check(), 1);
            is(x.run(0, 9), 3);
            is(x.check(), 1);
            x.need(1, 2);
            is(x.check(), 1);
            is(x.load(0, lazy), 0);
            is(x.check(), 1);
            is(x.run(0, 1), 1);
            is(x.bound(0, 1), 2);
            is(x.check(), 1);
            is(x.load(2, lazy), 0);
            is(x.check(), 1);
        }
    }

    /** Every call with every pair of extremes, on stations in several states; what is wrong is a throw. */
    private static void nothingThrows() {
        of("No call may ever throw, for any arguments in any state");
        LinkStation full = inState(4);
        is(full.load(11, 1), 0);
        is(full.count(4), 12);
        for (int state = 0; state < 5; state++) {
            for (int a : EXTREMES) {
                for (int b : EXTREMES) {
                    callAll(inState(state), a, b);
                }
            }
        }
    }

    private static LinkStation inState(int state) {
        if (state == 0) {
            return new LinkStation();
        }
        if (state == 1) {
            return station(1);
        }
        LinkStation x = state == 2 ? two() : ring();
        for (int m = 0; m < 12 && state == 4; m++) {
            fill(x, m);
        }
        return x;
    }

    /** All the definitions and steps that a module can have; name 3 is a function, name 6 a datum. */
    private static void fill(LinkStation x, int m) {
        for (int k = 1; k <= 20; k++) {
            x.define(m, 3 * k, (k + 1) % 2, 4 * k, (m + k) % 6);
        }
        x.beginner(m, 3);
        for (int k = 0; k < 100; k++) {
            int op = (k * 7 + m) % 15;
            boolean isStored = op == 9;
            boolean isRead = op == 8;
            x.put(m, op, op == 7 ? 3 : isStored ? 6 : k % 8, isRead ? 6 : op == 10 ? 3 : k % 8, k % 8);
        }
    }

    private static void callAll(LinkStation x, int a, int b) {
        x.comes(a, b);
        x.bound(a, b);
        x.datum(a, b);
        x.order(a, b);
        x.run(a, b);
        x.need(a, b);
        x.define(a, b, 0, 0, 0);
        x.define(a, 5, b, b, 0);
        x.define(a, 6, 0, b, b);
        x.define(a, 7, 1, b, 4);
        x.optional(a, b);
        x.beginner(a, b);
        x.put(a, b, 0, 0, 0);
        x.put(0, a, b, b, b);
        x.put(11, a, 0, b, 0);
        x.put(11, a, 0, 0, b);
        x.load(a, b);
        x.load(b, 1);
        x.run(a, 5000);
        x.load(a, 0);
        x.run(b, 300);
        x.fault(a);
        x.count(a);
        x.said(a);
        x.register(a);
        x.module();
        is(x.check(), 1);
    }
}
