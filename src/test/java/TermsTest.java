/**
 * The boundary cases that the document's "Terms" name: one method for each sentence of them. A wrong
 * answer is told with the sentence that it breaks.
 */
public final class TermsTest {
    private static final int NONE = LinkStation.NONE;
    private static final int NOTHING = 20;
    private static final int UNBOUND = 21;
    private static final int FUNCTION = 0;
    private static final int DATUM = 1;
    private static final int WEAK = 1;
    private static final int OWN = 2;
    private static final int HIDDEN = 4;
    private static final int MOST = Integer.MAX_VALUE;
    private static final int LEAST = Integer.MIN_VALUE;

    private static String sentence = "";
    private static int wrong = 0;

    public static void main(String[] args) {
        modulesAreAtMostTwelve();
        needsAreAtMostSix();
        needsAreInAnOrder();
        noneIsNeededTwice();
        namesAre0To63();
        definitionsAreAtMostTwenty();
        ofANameOne();
        stepsAreAtMostAHundred();
        registersAre0To7();
        stepsReckon();
        intsRunOver();
        whatIsNotNamedDoesNotMatter();
        lessIsNotEqual();
        stepsThatComeNext();
        usedAreSteps7To10AndTheBeginner();
        theOrder();
        theOrderOfAll();
        basesAndAddresses();
        ownAndHiddenComeFirst();
        ownWithoutBitsIsNotPreferred();
        hiddenIsNotMetByOthers();
        firstThatIsNotWeak();
        ifAllAreWeakTheFirst();
        onlyLoadedModulesGive();
        noneIsNothing();
        faultOneUnlessOptional();
        faultTwoEvenIfOptional();
        theFirstFaultIsMet();
        withAFaultNothingIsLoaded();
        begunInOrder();
        begunWithRings();
        unloadedByCallsThatDoSomething();
        notUnloadedByCallsThatDoNothing();
        slotsOfSteps7();
        eagerSlots();
        lazySlots();
        aRunBeginsAnew();
        beginnersAreCalled();
        registersGoOn();
        calledAtAnAddress();
        dataOfNothing();
        endsWith0();
        endsWith1();
        endsWith2();
        endsWith3();
        endsWith3Before2();
        endsWith4();
        endsWith4Before1();
        after512Calls();
        if (wrong != 0) {
            System.out.println(wrong + " answers are wrong");
            System.exit(1);
        }
        System.out.println("the terms hold at their boundaries");
    }

    private static void of(String words) {
        sentence = words;
    }

    private static void is(int got, int want) {
        if (got != want) {
            wrong++;
            StackTraceElement caller = new Throwable().getStackTrace()[1];
            System.out.println("\"" + sentence + "\" (" + caller.getMethodName() + ", line "
                + caller.getLineNumber() + "): answered " + got + ", due is " + want);
        }
    }

    private static LinkStation station(int modules) {
        LinkStation x = new LinkStation();
        for (int m = 0; m < modules; m++) {
            x.module();
        }
        return x;
    }

    private static int[] row(int... numbers) {
        return numbers;
    }

    /** Steps as rows {op, a, b, c}; what a row leaves out is 0. */
    private static void steps(LinkStation x, int m, int[]... rows) {
        for (int[] r : rows) {
            x.put(m, r[0], r.length > 1 ? r[1] : 0, r.length > 2 ? r[2] : 0, r.length > 3 ? r[3] : 0);
        }
    }

    /** One module, loaded eagerly, whose name 0 is the function that begins at its step 0. */
    private static LinkStation program(int[]... rows) {
        LinkStation x = station(1);
        x.define(0, 0, FUNCTION, 0, 0);
        steps(x, 0, rows);
        is(x.load(0, 0), 0);
        return x;
    }

    private static void chain(LinkStation x, int modules) {
        for (int m = 0; m + 1 < modules; m++) {
            x.need(m, m + 1);
        }
    }

    private static void orderIs(LinkStation x, int what, int... want) {
        is(x.count(4), want.length);
        for (int p = 0; p < want.length; p++) {
            is(x.order(p, what), want[p]);
        }
        is(x.order(want.length, what), NONE);
    }

    private static void faultIs(LinkStation x, int module, int step, int name) {
        is(x.fault(0), module);
        is(x.fault(1), step);
        is(x.fault(2), name);
    }

    private static void modulesAreAtMostTwelve() {
        of("MODULES are numbered from 0, at most 12.");
        LinkStation x = new LinkStation();
        is(x.need(0, 0), NONE);
        for (int m = 0; m < 12; m++) {
            is(x.put(m, 12, 0, 0, 0), NONE);
            is(x.module(), m);
            is(x.put(m, 12, 0, 0, 0), 0);
        }
        is(x.module(), NONE);
        is(x.put(12, 12, 0, 0, 0), NONE);
        is(x.put(11, 12, 0, 0, 0), 1);
    }

    private static void needsAreAtMostSix() {
        of("Each NEEDS others, at most 6.");
        LinkStation x = station(12);
        for (int k = 0; k < 6; k++) {
            is(x.need(11, k), k + 1);
        }
        is(x.need(11, 6), NONE);
        is(x.need(11, 11), NONE);
        is(x.load(11, 0), 0);
        orderIs(x, 0, 11, 0, 1, 2, 3, 4, 5);
        is(x.need(10, 6), 1);
    }

    private static void needsAreInAnOrder() {
        of("Each NEEDS others, in an order.");
        LinkStation x = station(7);
        int[] needed = {4, 1, 6, 2, 5, 3};
        for (int other : needed) {
            x.need(0, other);
        }
        x.load(0, 0);
        orderIs(x, 0, 0, 4, 1, 6, 2, 5, 3);
        orderIs(x, 1, 4, 1, 6, 2, 5, 3, 0);
    }

    private static void noneIsNeededTwice() {
        of("Each NEEDS others, none twice.");
        LinkStation x = station(3);
        is(x.need(0, 2), 1);
        is(x.need(0, 2), NONE);
        is(x.need(0, 1), 2);
        is(x.need(0, 2), NONE);
        is(x.need(0, 1), NONE);
        is(x.need(0, 0), 3);
        is(x.need(0, 0), NONE);
        x.load(0, 0);
        orderIs(x, 0, 0, 2, 1);
    }

    private static void namesAre0To63() {
        of("NAMES are 0 .. 63.");
        LinkStation x = station(1);
        int[] refused = {-1, 64, MOST, LEAST, -2, 127, 256};
        for (int name : refused) {
            is(x.define(0, name, FUNCTION, 0, 0), NONE);
            is(x.optional(0, name), 0);
            is(x.beginner(0, name), name == NONE ? 1 : 0);
            is(x.put(0, 7, name, 0, 0), NONE);
            is(x.put(0, 8, 0, name, 0), NONE);
            is(x.put(0, 9, name, 0, 0), NONE);
            is(x.put(0, 10, 0, name, 0), NONE);
        }
        is(x.define(0, 0, FUNCTION, 0, 0), 1);
        is(x.define(0, 63, FUNCTION, 0, 0), 2);
        is(x.optional(0, 0), 1);
        is(x.optional(0, 63), 1);
        is(x.beginner(0, 63), 1);
        is(x.beginner(0, 0), 1);
        is(x.put(0, 7, 63, 0, 0), 0);
        is(x.put(0, 7, 0, 0, 0), 1);
        is(x.load(0, 0), 0);
        for (int name : refused) {
            is(x.comes(0, name), NONE);
            is(x.bound(0, name), NONE);
            is(x.datum(0, name), NONE);
            is(x.run(name, 1), NONE);
        }
        is(x.comes(0, 0), 0);
        is(x.comes(0, 63), 0);
        is(x.bound(0, 0), 0);
        is(x.bound(0, 63), 0);
        is(x.run(63, 0), 1);
    }

    private static void definitionsAreAtMostTwenty() {
        of("A module has at most 20 DEFINITIONS.");
        LinkStation x = station(2);
        for (int k = 0; k < 20; k++) {
            is(x.define(0, 3 * k, k % 2, k, k % 6), k + 1);
        }
        is(x.define(0, 61, FUNCTION, 0, 0), NONE);
        is(x.define(0, 62, DATUM, 0, HIDDEN), NONE);
        is(x.define(1, 61, FUNCTION, 0, 0), 1);
        is(x.load(0, 0), 0);
        is(x.comes(0, 57), 0);
        is(x.datum(0, 57), 19);
        is(x.comes(0, 61), NOTHING);
        is(x.comes(0, 62), NOTHING);
    }

    private static void ofANameOne() {
        of("A module has of a name one definition.");
        LinkStation x = station(2);
        is(x.define(0, 5, DATUM, 7, HIDDEN), 1);
        is(x.define(0, 5, DATUM, 8, HIDDEN), NONE);
        is(x.define(0, 5, FUNCTION, 0, 0), NONE);
        is(x.define(0, 6, DATUM, 9, 0), 2);
        is(x.define(1, 5, DATUM, 10, 0), 1);
        x.need(0, 1);
        x.load(0, 0);
        is(x.datum(0, 5), 7);
        is(x.comes(0, 5), 0);
        is(x.comes(1, 5), 1);
        is(x.datum(1, 5), 10);
    }

    private static void stepsAreAtMostAHundred() {
        of("It has at most 100 STEPS, numbered from 0.");
        LinkStation x = station(1);
        for (int s = 0; s < 99; s++) {
            is(x.put(0, 0, 0, s, 0), s);
        }
        is(x.define(0, 0, FUNCTION, 99, 0), 1);
        is(x.load(0, 0), 0);
        is(x.run(0, 5), 4);
        is(x.put(0, 13, 0, 0, 0), 99);
        is(x.put(0, 12, 0, 0, 0), NONE);
        is(x.put(0, 14, 0, 0, 0), NONE);
        x.define(0, 1, FUNCTION, 0, 0);
        is(x.load(0, 0), 0);
        is(x.run(0, 5), 4);
        is(x.count(0), 1);
        is(x.run(1, 5000), 4);
        is(x.count(0), 100);
        is(x.said(0), 98);
    }

    private static void registersAre0To7() {
        of("registers 0 .. 7");
        LinkStation x = station(1);
        x.define(0, 0, FUNCTION, 0, 0);
        for (int r = 0; r < 8; r++) {
            is(x.put(0, 0, r, 10 + r, 0), r);
        }
        int[] refused = {-1, 8, MOST, LEAST};
        for (int r : refused) {
            is(x.put(0, 0, r, 0, 0), NONE);
            is(x.put(0, 13, r, 0, 0), NONE);
        }
        is(x.put(0, 12, 0, 0, 0), 8);
        x.load(0, 0);
        x.run(0, 9);
        for (int r = 0; r < 8; r++) {
            is(x.register(r), 10 + r);
        }
        is(x.register(8), 0);
        is(x.register(-1), 0);
    }

    private static void stepsReckon() {
        of("2 register a becomes the sum of b and c, 3 the difference, 4 the product");
        int[] numbers = {-7, -1, 0, 1, 6};
        for (int b : numbers) {
            for (int c : numbers) {
                LinkStation x = program(row(0, 1, b), row(0, 2, c), row(2, 3, 1, 2), row(3, 4, 1, 2), row(4, 5, 1, 2),
                    row(4, 1, 1, 2), row(1, 2, 3), row(12));
                is(x.run(0, 8), 0);
                is(x.count(0), 8);
                is(x.register(3), b + c);
                is(x.register(4), b - c);
                is(x.register(5), b * c);
                is(x.register(1), b * c);
                is(x.register(2), b + c);
            }
        }
    }

    private static void intsRunOver() {
        of("ints that run over");
        LinkStation x = program(row(0, 0, MOST), row(0, 1, 1), row(2, 2, 0, 1), row(0, 3, LEAST), row(3, 4, 3, 1),
            row(0, 5, -1), row(4, 5, 3, 5), row(0, 6, 65536), row(4, 6, 6, 6), row(0, 7, 0), row(3, 7, 7, 3), row(12));
        is(x.run(0, 20), 0);
        is(x.register(2), LEAST);
        is(x.register(4), MOST);
        is(x.register(5), LEAST);
        is(x.register(6), 0);
        is(x.register(7), LEAST);
    }

    private static void whatIsNotNamedDoesNotMatter() {
        of("what is not named does not matter");
        int[] any = {LEAST, -1, 8, 64, 100, MOST};
        for (int n : any) {
            LinkStation x = station(1);
            x.define(0, 0, FUNCTION, 0, 0);
            x.define(0, 1, FUNCTION, 11, 0);
            x.define(0, 2, DATUM, 5, 0);
            is(x.put(0, 0, 0, 7, n), 0);
            is(x.put(0, 1, 1, 0, n), 1);
            is(x.put(0, 6, 3, n, n), 2);
            is(x.put(0, 7, 1, n, n), 3);
            is(x.put(0, 8, 2, 2, n), 4);
            is(x.put(0, 9, 2, 0, n), 5);
            is(x.put(0, 10, 3, 1, n), 6);
            is(x.put(0, 11, 3, n, n), 7);
            is(x.put(0, 13, 2, n, n), 8);
            is(x.put(0, 14, n, n, n), 9);
            is(x.put(0, 12, 0, 0, 0), 10);
            is(x.put(0, 12, n, n, n), 11);
            is(x.load(0, 0), 0);
            is(x.run(0, 100), 0);
            is(x.count(0), 12);
            is(x.said(0), 5);
            is(x.datum(0, 2), 7);
            is(x.register(1), 7);
        }
    }

    private static void lessIsNotEqual() {
        of("5 if register a is less than register b, step c comes next");
        is(jumps(3, 3), 0);
        is(jumps(2, 3), 1);
        is(jumps(3, 2), 0);
        is(jumps(LEAST, MOST), 1);
        is(jumps(MOST, LEAST), 0);
        is(jumps(-1, 0), 1);
        is(jumps(LEAST, LEAST), 0);
    }

    /** Whether step 5 jumps over the END behind it. */
    private static int jumps(int a, int b) {
        LinkStation x = program(row(0, 6, a), row(0, 7, b), row(5, 6, 7, 4), row(14), row(0, 0, 1), row(12));
        is(x.run(0, 9), 0);
        return x.register(0);
    }

    private static void stepsThatComeNext() {
        of("6 step a comes next");
        LinkStation x = station(1);
        x.define(0, 0, FUNCTION, 1, 0);
        steps(x, 0, row(12), row(6, 99));
        for (int s = 2; s < 99; s++) {
            x.put(0, 14, 0, 0, 0);
        }
        is(x.put(0, 6, 0, 0, 0), 99);
        x.load(0, 0);
        is(x.run(0, 3), 0);
        is(x.count(0), 3);
        LinkStation itself = program(row(6, 0), row(12));
        is(itself.run(0, 7), 1);
        is(itself.count(0), 7);
    }

    private static void usedAreSteps7To10AndTheBeginner() {
        of("A module USES the names in its steps 7 to 10, and its beginner.");
        int[][] uses = {row(7, 9), row(8, 0, 9), row(9, 9, 0), row(10, 0, 9)};
        for (int[] use : uses) {
            LinkStation x = station(1);
            steps(x, 0, use);
            is(x.load(0, 0), 1);
            faultIs(x, 0, 0, 9);
        }
        LinkStation begins = station(1);
        begins.beginner(0, 9);
        is(begins.load(0, 0), 1);
        faultIs(begins, 0, NONE, 9);
        for (int op = 0; op < 15; op++) {
            if (op < 7 || op > 10) {
                LinkStation x = station(1);
                steps(x, 0, row(op, 1, 1, 1));
                is(x.load(0, 0), 0);
                faultIs(x, NONE, NONE, NONE);
            }
        }
    }

    private static void theOrder() {
        of("the ORDER: the root, then what it needs, in its order, then what these need, and so on");
        LinkStation x = station(9);
        x.need(0, 2);
        x.need(0, 1);
        x.need(2, 5);
        x.need(2, 1);
        x.need(1, 4);
        x.need(1, 3);
        x.need(5, 7);
        x.need(5, 0);
        x.need(4, 6);
        x.need(4, 7);
        is(x.load(0, 0), 0);
        orderIs(x, 0, 0, 2, 1, 5, 4, 3, 7, 6);
        is(x.comes(8, 0), NONE);
        is(x.load(4, 0), 0);
        orderIs(x, 0, 4, 6, 7);
    }

    private static void theOrderOfAll() {
        of("of each in the order in turn what it needs that is not there yet");
        LinkStation alone = station(2);
        alone.load(1, 0);
        orderIs(alone, 0, 1);
        LinkStation itself = station(2);
        itself.need(0, 0);
        itself.load(0, 0);
        orderIs(itself, 0, 0);
        LinkStation ring = station(12);
        chain(ring, 12);
        ring.need(11, 0);
        ring.load(11, 0);
        orderIs(ring, 0, 11, 0, 1, 2, 3, 4, 5, 6, 7, 8, 9, 10);
        LinkStation wide = station(12);
        for (int m = 1; m < 7; m++) {
            wide.need(0, m);
        }
        for (int m = 7; m < 12; m++) {
            wide.need(6, m);
        }
        wide.load(0, 0);
        orderIs(wide, 0, 0, 1, 2, 3, 4, 5, 6, 7, 8, 9, 10, 11);
    }

    private static void basesAndAddresses() {
        of("The module at place p has the BASE 1000 (p + 1); an address is its base and its step together.");
        LinkStation x = station(12);
        for (int m = 11; m > 0; m--) {
            x.need(m, m - 1);
        }
        x.define(11, 0, FUNCTION, 0, 0);
        x.define(0, 1, FUNCTION, 0, 0);
        x.define(0, 2, FUNCTION, 99, 0);
        x.define(11, 3, FUNCTION, 99, HIDDEN);
        x.define(5, 4, FUNCTION, 42, WEAK);
        steps(x, 11, row(10, 0, 0), row(10, 1, 1), row(10, 2, 2), row(10, 3, 3), row(10, 4, 4), row(12));
        x.load(11, 0);
        is(x.run(0, 9), 0);
        is(x.register(0), 1000);
        is(x.register(1), 12000);
        is(x.register(2), 12099);
        is(x.register(3), 1099);
        is(x.register(4), 7042);
    }

    private static void ownAndHiddenComeFirst() {
        of("A NAME used in a module COMES TO: the module's own definition, if that is own or hidden");
        for (int how = 0; how <= 5; how++) {
            LinkStation x = station(2);
            x.need(0, 1);
            x.define(0, 7, FUNCTION, 0, 0);
            x.define(1, 7, FUNCTION, 0, how);
            x.load(0, 0);
            is(x.comes(0, 7), 0);
            is(x.comes(1, 7), how >= 2 ? 1 : 0);
        }
    }

    private static void ownWithoutBitsIsNotPreferred() {
        of("else, among all that are not hidden of loaded modules, in the order");
        LinkStation x = station(3);
        x.need(2, 0);
        x.need(2, 1);
        x.define(0, 7, DATUM, 0, 0);
        x.define(1, 7, DATUM, 0, 0);
        x.define(1, 8, DATUM, 0, OWN);
        x.define(0, 9, DATUM, 0, OWN);
        x.define(1, 9, DATUM, 0, 0);
        x.load(2, 0);
        is(x.comes(2, 7), 0);
        is(x.comes(1, 7), 0);
        is(x.comes(0, 8), 1);
        is(x.comes(2, 8), 1);
        is(x.comes(1, 9), 0);
        is(x.comes(2, 9), 0);
    }

    private static void hiddenIsNotMetByOthers() {
        of("among all that are not hidden");
        for (int how = HIDDEN; how <= 5; how++) {
            LinkStation x = station(3);
            chain(x, 3);
            x.define(1, 7, DATUM, 0, how);
            x.define(1, 8, DATUM, 0, how);
            x.define(2, 8, DATUM, 0, WEAK);
            x.load(0, 0);
            is(x.comes(0, 7), NOTHING);
            is(x.comes(1, 7), 1);
            is(x.comes(2, 7), NOTHING);
            is(x.comes(0, 8), 2);
            is(x.comes(1, 8), 1);
            is(x.comes(2, 8), 2);
        }
    }

    private static void firstThatIsNotWeak() {
        of("the first one that is not weak");
        LinkStation x = station(4);
        chain(x, 4);
        x.define(0, 7, DATUM, 0, WEAK);
        x.define(1, 7, DATUM, 0, WEAK | OWN);
        x.define(2, 7, DATUM, 0, 0);
        x.define(3, 7, DATUM, 0, 0);
        x.define(0, 8, DATUM, 0, WEAK);
        x.define(3, 8, DATUM, 0, OWN);
        x.define(2, 9, DATUM, 0, 0);
        x.define(3, 9, DATUM, 0, WEAK);
        x.load(0, 0);
        is(x.comes(0, 7), 2);
        is(x.comes(1, 7), 1);
        is(x.comes(2, 7), 2);
        is(x.comes(3, 7), 2);
        is(x.comes(0, 8), 3);
        is(x.comes(2, 8), 3);
        is(x.comes(3, 9), 2);
    }

    private static void ifAllAreWeakTheFirst() {
        of("or, if all are weak, the first one");
        LinkStation x = station(3);
        x.need(2, 1);
        x.need(1, 0);
        x.define(0, 7, DATUM, 0, WEAK);
        x.define(1, 7, DATUM, 0, WEAK);
        x.define(0, 8, DATUM, 0, WEAK);
        x.define(2, 9, DATUM, 0, WEAK | HIDDEN);
        x.define(1, 9, DATUM, 0, WEAK | OWN);
        x.define(0, 9, DATUM, 0, WEAK);
        x.load(2, 0);
        is(x.comes(2, 7), 1);
        is(x.comes(1, 7), 1);
        is(x.comes(0, 7), 1);
        is(x.comes(2, 8), 0);
        is(x.comes(2, 9), 2);
        is(x.comes(1, 9), 1);
        is(x.comes(0, 9), 1);
    }

    private static void onlyLoadedModulesGive() {
        of("among all of loaded modules");
        LinkStation x = station(3);
        x.need(1, 2);
        x.define(0, 7, DATUM, 0, 0);
        x.define(2, 7, DATUM, 0, WEAK);
        x.load(1, 0);
        is(x.comes(1, 7), 2);
        is(x.comes(0, 7), NONE);
        x.need(2, 0);
        x.load(1, 0);
        is(x.comes(1, 7), 0);
    }

    private static void noneIsNothing() {
        of("If there is none, it comes to NOTHING.");
        LinkStation x = station(2);
        x.load(0, 0);
        is(x.comes(0, 0), NOTHING);
        is(x.comes(0, 63), NOTHING);
        x.define(1, 0, DATUM, 0, 0);
        x.load(0, 0);
        is(x.comes(0, 0), NOTHING);
    }

    private static void faultOneUnlessOptional() {
        of("1 a name comes to nothing that is not optional for the module that uses it");
        LinkStation x = station(2);
        chain(x, 2);
        steps(x, 0, row(7, 9));
        steps(x, 1, row(7, 9));
        is(x.load(0, 0), 1);
        faultIs(x, 0, 0, 9);
        x.optional(0, 9);
        is(x.load(0, 1), 1);
        faultIs(x, 1, 0, 9);
        x.optional(1, 9);
        is(x.load(0, 1), 0);
        is(x.load(0, 0), 0);
        x.beginner(1, 10);
        is(x.load(0, 0), 1);
        faultIs(x, 1, NONE, 10);
        x.optional(1, 10);
        is(x.load(0, 0), 0);
    }

    private static void faultTwoEvenIfOptional() {
        of("2 it comes to a datum for step 7 or 10, or a beginner, or to a function for 8 or 9");
        int[][] uses = {row(7, 9), row(10, 0, 9), row(8, 0, 9), row(9, 9, 0)};
        for (int u = 0; u < 4; u++) {
            for (int kind = 0; kind < 2; kind++) {
                LinkStation x = station(1);
                x.optional(0, 9);
                x.define(0, 9, kind, 0, 0);
                steps(x, 0, uses[u]);
                boolean fits = (u < 2) == (kind == FUNCTION);
                is(x.load(0, 0), fits ? 0 : 2);
                is(x.fault(2), fits ? NONE : 9);
            }
        }
        for (int kind = 0; kind < 2; kind++) {
            LinkStation x = station(1);
            x.optional(0, 9);
            x.define(0, 9, kind, 0, 0);
            x.beginner(0, 9);
            is(x.load(0, 0), kind == FUNCTION ? 0 : 2);
        }
        LinkStation hidden = station(2);
        chain(hidden, 2);
        hidden.define(0, 9, DATUM, 0, HIDDEN);
        hidden.define(1, 9, FUNCTION, 0, 0);
        steps(hidden, 1, row(7, 9));
        is(hidden.load(0, 0), 0);
        steps(hidden, 0, row(7, 9));
        is(hidden.load(0, 0), 2);
        faultIs(hidden, 0, 0, 9);
    }

    private static void theFirstFaultIsMet() {
        of("The first one is met in the order of loading: in each module its beginner, then its steps.");
        LinkStation x = station(4);
        x.need(3, 1);
        x.need(3, 2);
        x.need(1, 0);
        steps(x, 0, row(7, 20));
        is(x.load(3, 0), 1);
        faultIs(x, 0, 0, 20);
        steps(x, 2, row(12), row(7, 22), row(7, 23));
        is(x.load(3, 0), 1);
        faultIs(x, 2, 1, 22);
        x.define(2, 22, DATUM, 0, 0);
        is(x.load(3, 0), 2);
        faultIs(x, 2, 1, 22);
        x.beginner(2, 24);
        is(x.load(3, 0), 1);
        faultIs(x, 2, NONE, 24);
        for (int s = 0; s < 99; s++) {
            x.put(3, 12, 0, 0, 0);
        }
        x.put(3, 8, 0, 63, 0);
        is(x.load(3, 0), 1);
        faultIs(x, 3, 99, 63);
    }

    private static void withAFaultNothingIsLoaded() {
        of("With a fault nothing is loaded, and what was loaded before stays.");
        LinkStation x = station(3);
        steps(x, 0, row(7, 9));
        is(x.load(0, 0), 1);
        is(x.count(4), 0);
        is(x.order(0, 0), NONE);
        is(x.order(0, 1), NONE);
        is(x.comes(0, 0), NONE);
        is(x.run(0, 9), NONE);
        x.need(1, 2);
        x.define(1, 1, FUNCTION, 0, 0);
        x.define(2, 2, DATUM, 6, 0);
        x.define(2, 3, FUNCTION, 0, 0);
        steps(x, 1, row(0, 0, 8), row(9, 2, 0), row(7, 3), row(12));
        steps(x, 2, row(12));
        is(x.load(1, 1), 0);
        is(x.run(1, 9), 0);
        is(x.load(0, 0), 1);
        orderIs(x, 0, 1, 2);
        orderIs(x, 1, 2, 1);
        is(x.datum(2, 2), 8);
        is(x.bound(1, 3), 2);
        is(x.comes(0, 2), NONE);
        is(x.comes(1, 2), 2);
        is(x.run(1, 2), 1);
        is(x.bound(1, 3), UNBOUND);
    }

    private static void begunInOrder() {
        of("BEGUN are first what the root needs, each with what it needs before itself, in its order; the root last.");
        LinkStation x = station(8);
        x.need(0, 2);
        x.need(0, 1);
        x.need(2, 5);
        x.need(2, 4);
        x.need(1, 4);
        x.need(1, 3);
        x.need(5, 6);
        x.load(0, 0);
        orderIs(x, 1, 6, 5, 4, 2, 3, 1, 0);
        x.load(2, 0);
        orderIs(x, 1, 6, 5, 4, 2);
        x.load(7, 0);
        orderIs(x, 1, 7);
    }

    private static void begunWithRings() {
        of("those that are met already, also if they are not done, left out");
        LinkStation x = station(4);
        x.need(0, 0);
        x.need(0, 1);
        x.need(1, 2);
        x.need(1, 3);
        x.need(2, 1);
        x.need(2, 0);
        x.need(3, 2);
        x.load(0, 0);
        orderIs(x, 1, 2, 3, 1, 0);
        x.load(2, 0);
        orderIs(x, 1, 3, 1, 0, 2);
        LinkStation ring = station(12);
        chain(ring, 12);
        ring.need(11, 0);
        ring.load(0, 0);
        orderIs(ring, 1, 11, 10, 9, 8, 7, 6, 5, 4, 3, 2, 1, 0);
    }

    /** Module 0 is loaded and module 1 is not; the latter needs itself, has name 0 and an optional 0. */
    private static LinkStation oneOfTwoLoaded() {
        LinkStation x = station(2);
        x.need(1, 1);
        x.define(1, 0, FUNCTION, 0, 0);
        x.define(0, 0, FUNCTION, 0, 0);
        x.define(0, 1, DATUM, 4, 0);
        x.optional(1, 0);
        x.beginner(1, 0);
        steps(x, 0, row(7, 0), row(12));
        is(x.load(0, 0), 0);
        return x;
    }

    private static void unloadedByCallsThatDoSomething() {
        of("Nothing is loaded any more, when any module, also one that is not loaded, is told more");
        for (int m = 0; m < 2; m++) {
            for (int call = 0; call < 6; call++) {
                LinkStation x = oneOfTwoLoaded();
                tellMore(x, m, call);
                is(x.count(4), 0);
                is(x.order(0, 0), NONE);
                is(x.order(0, 1), NONE);
                is(x.comes(0, 0), NONE);
                is(x.bound(0, 0), NONE);
                is(x.datum(0, 1), NONE);
                is(x.run(0, 9), NONE);
                is(x.check(), 1);
            }
        }
    }

    private static void tellMore(LinkStation x, int m, int call) {
        switch (call) {
            case 0: is(x.need(m, 0), m + 1); break;
            case 1: is(x.define(m, 63, DATUM, 0, 0), m == 0 ? 3 : 2); break;
            case 2: is(x.optional(m, 63), 1); break;
            case 3: is(x.beginner(m, 63), 1); break;
            case 4: is(x.beginner(m, NONE), 1); break;
            default: is(x.put(m, 12, 0, 0, 0), m == 0 ? 2 : 0); break;
        }
    }

    private static void notUnloadedByCallsThatDoNothing() {
        of("by a call that does something (need, define, optional, beginner, put)");
        LinkStation x = oneOfTwoLoaded();
        is(x.need(1, 1), NONE);
        is(x.need(1, 2), NONE);
        is(x.need(2, 1), NONE);
        is(x.define(1, 0, FUNCTION, 0, 0), NONE);
        is(x.define(1, 64, FUNCTION, 0, 0), NONE);
        is(x.define(1, 5, 2, 0, 0), NONE);
        is(x.define(1, 5, FUNCTION, 100, 0), NONE);
        is(x.define(1, 5, FUNCTION, 0, 6), NONE);
        is(x.optional(1, 0), 0);
        is(x.optional(1, 64), 0);
        is(x.optional(2, 1), 0);
        is(x.beginner(1, 64), 0);
        is(x.beginner(1, -2), 0);
        is(x.beginner(2, 0), 0);
        is(x.put(1, 15, 0, 0, 0), NONE);
        is(x.put(1, 0, 8, 0, 0), NONE);
        is(x.put(2, 12, 0, 0, 0), NONE);
        is(x.load(2, 0), NONE);
        is(x.load(0, 2), NONE);
        is(x.module(), 2);
        is(x.run(9, 9), NONE);
        orderIs(x, 0, 0);
        orderIs(x, 1, 0);
        is(x.comes(0, 0), 0);
        is(x.bound(0, 0), 0);
        is(x.datum(0, 1), 4);
        is(x.run(0, 3), 1);
    }

    private static LinkStation slotted(int lazy) {
        LinkStation x = station(3);
        x.need(0, 1);
        x.define(0, 0, FUNCTION, 0, 0);
        x.define(1, 1, FUNCTION, 0, 0);
        x.define(1, 2, DATUM, 0, 0);
        x.optional(0, 3);
        steps(x, 0, row(7, 1), row(7, 1), row(8, 1, 2), row(9, 2, 1), row(10, 1, 1), row(7, 3), row(7, 0), row(12));
        steps(x, 1, row(12), row(7, 0));
        steps(x, 2, row(7, 0));
        x.beginner(1, 1);
        is(x.load(0, lazy), 0);
        return x;
    }

    private static void slotsOfSteps7() {
        of("SLOTS: each loaded module has one for each name that its steps 7 use.");
        LinkStation x = slotted(0);
        for (int name = 0; name < 64; name++) {
            boolean has = name == 0 || name == 1 || name == 3;
            is(x.bound(0, name) == NONE ? 0 : 1, has ? 1 : 0);
            is(x.bound(1, name) == NONE ? 0 : 1, name == 0 ? 1 : 0);
            is(x.bound(2, name), NONE);
        }
    }

    private static void eagerSlots() {
        of("Loaded at once (EAGER), all of them are bound to what their names come to");
        LinkStation x = slotted(0);
        for (int again = 0; again < 2; again++) {
            is(x.bound(0, 0), 0);
            is(x.bound(0, 1), 1);
            is(x.bound(0, 3), NOTHING);
            is(x.bound(1, 0), 0);
            is(x.check(), 1);
            is(x.run(0, 50), 3);
            is(x.count(2), 0);
        }
    }

    private static void lazySlots() {
        of("LAZY: each is (to nothing, too) when a step 7 with it is first made.");
        LinkStation x = slotted(1);
        int[][] want = {row(UNBOUND, UNBOUND, 0), row(UNBOUND, UNBOUND, 0), row(1, UNBOUND, 1), row(1, UNBOUND, 1),
            row(1, UNBOUND, 1), row(1, UNBOUND, 1), row(1, UNBOUND, 1), row(1, UNBOUND, 1), row(1, UNBOUND, 1),
            row(1, NOTHING, 2)};
        for (int steps = 0; steps < want.length; steps++) {
            is(x.run(0, steps), steps < 9 ? 1 : 3);
            is(x.count(0), steps);
            is(x.bound(0, 1), want[steps][0]);
            is(x.bound(0, 3), want[steps][1]);
            is(x.count(2), want[steps][2]);
            is(x.bound(0, 0), UNBOUND);
            is(x.bound(1, 0), UNBOUND);
            is(x.check(), 1);
        }
    }

    private static void aRunBeginsAnew() {
        of("A RUN: all data have their first values, registers are 0, slots are as loaded.");
        LinkStation x = station(2);
        x.need(0, 1);
        x.define(0, 0, FUNCTION, 0, 0);
        x.define(0, 1, FUNCTION, 6, 0);
        x.define(1, 2, DATUM, 5, 0);
        x.define(1, 3, DATUM, LEAST, HIDDEN);
        x.define(1, 4, FUNCTION, 0, 0);
        steps(x, 0, row(8, 0, 2), row(13, 7), row(0, 7, 9), row(9, 2, 7), row(7, 4), row(12), row(12));
        steps(x, 1, row(9, 3, 7), row(12));
        x.load(0, 1);
        for (int again = 0; again < 3; again++) {
            is(x.run(0, 50), 0);
            is(x.register(0), 5);
            is(x.said(0), 0);
            is(x.datum(1, 2), 9);
            is(x.datum(1, 3), 9);
            is(x.bound(0, 4), 1);
            is(x.count(2), 1);
        }
        is(x.run(1, 50), 0);
        is(x.datum(1, 2), 5);
        is(x.datum(1, 3), LEAST);
        is(x.bound(0, 4), UNBOUND);
        is(x.register(7), 0);
        is(x.register(0), 0);
    }

    private static void beginnersAreCalled() {
        of("The beginner of each module that has one is called, in the order in which they are begun, then the entry");
        LinkStation x = station(4);
        x.need(0, 1);
        x.need(0, 2);
        for (int m = 0; m < 4; m++) {
            x.define(m, 10 + m, FUNCTION, 0, 0);
            x.define(m, 20, FUNCTION, 0, m == 0 ? 0 : HIDDEN);
            x.beginner(m, 20);
            steps(x, m, row(0, 0, m + 1), row(13, 0), row(12));
        }
        x.load(0, 0);
        saidAre(x, 12, 2, 3, 1, 3);
        of("(one that comes to nothing is left out)");
        x.optional(1, 30);
        x.beginner(1, 30);
        x.load(0, 0);
        saidAre(x, 12, 3, 1, 3);
        x.beginner(2, NONE);
        x.load(0, 0);
        saidAre(x, 12, 1, 3);
        x.beginner(0, NONE);
        x.load(0, 0);
        saidAre(x, 12, 3);
        of("then the entry, a name, as it comes in the root");
        saidAre(x, 20, 1);
        x.load(2, 0);
        saidAre(x, 20, 3);
        is(x.run(10, 9), NONE);
    }

    private static void saidAre(LinkStation x, int entry, int... want) {
        is(x.run(entry, 99), 0);
        is(x.count(1), want.length);
        for (int k = 0; k < want.length; k++) {
            is(x.said(k), want[k]);
        }
        is(x.said(want.length), 0);
        is(x.count(3), 0);
    }

    private static void registersGoOn() {
        of("each when the one before has come back (registers go on from one to the next)");
        LinkStation x = station(12);
        chain(x, 12);
        x.define(0, 0, FUNCTION, 0, 0);
        for (int m = 0; m < 12; m++) {
            x.beginner(m, 0);
        }
        steps(x, 0, row(0, 1, 1), row(2, 0, 0, 1), row(13, 0), row(12));
        x.load(0, 0);
        is(x.run(0, 52), 0);
        is(x.count(0), 52);
        is(x.register(0), 13);
        is(x.said(12), 13);
        is(x.run(0, 51), 1);
        is(x.run(0, 48), 1);
        is(x.count(1), 12);
    }

    private static void calledAtAnAddress() {
        of("11 the function with that address, of any loaded module, hidden or not");
        is(endAt(2003), 0);
        is(endAt(2001), 0);
        is(endAt(3000), 0);
        is(endAt(2099), 4);
        of("11 finds no function");
        int[] none = {0, 1, 3, 999, -1, -1000, -2001, -2003, 1001, 1099, 2000, 2002, 2100, 2999, 3001, 4000, 4001,
            12000, 13000, 20001, 2001 + 65536, MOST, LEAST};
        for (int address : none) {
            is(endAt(address), 3);
        }
    }

    /** Of three loaded modules; a fourth one, not loaded, has a function at step 0 and at step 1. */
    private static int endAt(int address) {
        LinkStation x = station(4);
        chain(x, 3);
        x.define(0, 0, FUNCTION, 0, 0);
        x.define(1, 1, FUNCTION, 1, HIDDEN);
        x.define(1, 2, DATUM, 2, 0);
        x.define(1, 3, FUNCTION, 3, WEAK);
        x.define(1, 4, FUNCTION, 99, 0);
        x.define(2, 3, FUNCTION, 0, 0);
        x.define(3, 5, FUNCTION, 0, 0);
        x.define(3, 6, FUNCTION, 1, 0);
        steps(x, 0, row(0, 0, address), row(11, 0), row(12));
        steps(x, 1, row(12), row(12), row(12), row(12));
        steps(x, 2, row(12), row(12));
        steps(x, 3, row(12), row(12));
        is(x.load(0, 0), 0);
        return x.run(0, 9);
    }

    private static void dataOfNothing() {
        of("data of nothing are 0 and stay so, the address of nothing is 0");
        LinkStation x = station(2);
        x.define(0, 0, FUNCTION, 0, 0);
        x.define(1, 5, DATUM, 3, 0);
        x.optional(0, 5);
        x.optional(0, 6);
        steps(x, 0, row(0, 0, 9), row(0, 1, 9), row(0, 2, 9), row(8, 1, 5), row(9, 5, 0), row(8, 2, 5),
            row(10, 0, 6), row(12));
        is(x.load(0, 1), 0);
        is(x.run(0, 9), 0);
        is(x.register(0), 0);
        is(x.register(1), 0);
        is(x.register(2), 0);
        is(x.datum(0, 5), NONE);
        is(x.datum(1, 5), NONE);
        x.load(1, 0);
        is(x.datum(1, 5), 3);
    }

    private static void endsWith0() {
        of("It ends: 0 when the last one has come back, or with 14");
        LinkStation back = program(row(12));
        is(back.run(0, 1), 0);
        is(back.count(0), 1);
        LinkStation end = program(row(14), row(13, 0));
        is(end.run(0, 1), 0);
        is(end.count(0), 1);
        is(end.count(1), 0);
        LinkStation within = station(1);
        within.define(0, 0, FUNCTION, 0, 0);
        within.define(0, 1, FUNCTION, 2, 0);
        steps(within, 0, row(7, 1), row(13, 0), row(14));
        within.load(0, 0);
        is(within.run(0, 2), 0);
        is(within.count(1), 0);
        within.beginner(0, 1);
        within.load(0, 0);
        is(within.run(0, 9), 0);
        is(within.count(0), 1);
    }

    private static void endsWith1() {
        of("1 when more steps would be made than are granted");
        LinkStation x = station(1);
        x.define(0, 0, FUNCTION, 0, 0);
        x.define(0, 1, FUNCTION, 3, 0);
        steps(x, 0, row(0, 0, 5), row(7, 1), row(12), row(12));
        x.load(0, 1);
        for (int granted = 0; granted < 4; granted++) {
            is(x.run(0, granted), 1);
            is(x.count(0), granted);
            is(x.register(0), granted == 0 ? 0 : 5);
            is(x.bound(0, 1), granted < 2 ? UNBOUND : 0);
            is(x.count(3), granted < 2 ? 0 : 1);
        }
        is(x.run(0, 4), 0);
        is(x.count(0), 4);
        LinkStation loop = program(row(0, 0, 1), row(2, 1, 1, 0), row(6, 1));
        is(loop.run(0, 5000), 1);
        is(loop.count(0), 5000);
        is(loop.register(1), 2500);
    }

    /** Name 0 calls itself without end, by its name (op 7) or its address (op 11). */
    private static LinkStation endless(int op) {
        return program(row(10, 0, 0), row(op, 0));
    }

    private static void endsWith2() {
        of("2 with a call that would be within 100 others of steps 7 and 11");
        int[] ops = {7, 11};
        for (int op : ops) {
            LinkStation x = endless(op);
            is(x.run(0, 5000), 2);
            is(x.count(0), 202);
            is(x.count(3), 100);
            is(x.run(0, 202), 2);
            is(x.run(0, 201), 1);
            is(x.count(3), 100);
            is(x.run(0, 200), 1);
            is(x.count(3), 100);
            is(x.run(0, 199), 1);
            is(x.count(3), 99);
        }
        LinkStation mixed = station(1);
        mixed.define(0, 0, FUNCTION, 0, 0);
        mixed.define(0, 1, FUNCTION, 2, 0);
        steps(mixed, 0, row(10, 0, 1), row(11, 0), row(7, 0));
        mixed.load(0, 0);
        mixed.beginner(0, 0);
        mixed.load(0, 0);
        is(mixed.run(0, 5000), 2);
        is(mixed.count(0), 152);
        is(mixed.count(3), 100);
        LinkStation again = countdown(100);
        is(again.run(0, 5000), 0);
        is(again.count(3), 100);
        is(again.register(5), 2);
        LinkStation deeper = countdown(101);
        is(deeper.run(0, 5000), 2);
        is(deeper.count(3), 100);
        is(deeper.register(5), 0);
    }

    /** Twice, one after the other, goes down so many calls within each other and comes back. */
    private static LinkStation countdown(int deep) {
        LinkStation x = station(1);
        x.define(0, 0, FUNCTION, 0, 0);
        x.define(0, 1, FUNCTION, 8, 0);
        steps(x, 0, row(0, 1, 1), row(0, 0, deep), row(7, 1), row(2, 5, 5, 1),
            row(0, 0, deep), row(7, 1), row(2, 5, 5, 1), row(12), row(3, 0, 0, 1), row(5, 2, 0, 11), row(12), row(7, 1), row(12));
        is(x.load(0, 0), 0);
        return x;
    }

    private static void endsWith3() {
        of("3 when nothing is called, or 11 finds no function (these steps are made)");
        for (int lazy = 0; lazy < 2; lazy++) {
            LinkStation x = station(1);
            x.define(0, 0, FUNCTION, 0, 0);
            x.define(0, 1, FUNCTION, 2, 0);
            x.optional(0, 9);
            steps(x, 0, row(7, 9), row(12), row(11, 0), row(12));
            is(x.load(0, lazy), 0);
            is(x.run(0, 1), 3);
            is(x.count(0), 1);
            is(x.count(2), lazy);
            is(x.count(3), 0);
            is(x.bound(0, 9), NOTHING);
            is(x.run(0, 0), 1);
            is(x.bound(0, 9), lazy == 1 ? UNBOUND : NOTHING);
            is(x.run(1, 1), 3);
            is(x.count(0), 1);
            is(x.count(3), 0);
            is(x.run(1, 0), 1);
        }
    }

    private static void endsWith3Before2() {
        of("3 (looked at before 2; these steps are made)");
        int[][] last = {row(7, 9), row(11, 7), row(7, 0), row(11, 4)};
        int[] ends = {3, 3, 2, 2};
        for (int k = 0; k < 4; k++) {
            LinkStation x = station(1);
            x.define(0, 0, FUNCTION, 0, 0);
            x.define(0, 1, FUNCTION, 3, 0);
            x.optional(0, 9);
            steps(x, 0, row(0, 2, 100), row(0, 3, 1), row(10, 4, 1), row(5, 1, 2, 5), last[k],
                row(2, 1, 1, 3), row(7, 1));
            is(x.load(0, 1), 0);
            is(x.run(0, 5000), ends[k]);
            is(x.count(0), 305);
            is(x.count(3), 100);
            is(x.count(2), k == 0 || k == 2 ? 2 : 1);
            is(x.run(0, 305), ends[k]);
            is(x.run(0, 304), 1);
            is(x.count(2), 1);
        }
    }

    private static void endsWith4() {
        of("4 when it comes behind the last step of a module");
        LinkStation falls = program(row(0, 0, 1));
        is(falls.run(0, 9), 4);
        is(falls.count(0), 1);
        is(falls.register(0), 1);
        LinkStation jumps = program(row(6, 1));
        is(jumps.run(0, 9), 4);
        LinkStation far = program(row(6, 99));
        is(far.run(0, 9), 4);
        LinkStation branches = program(row(0, 1, 1), row(5, 0, 1, 3), row(12));
        is(branches.run(0, 9), 4);
        is(branches.count(0), 2);
        LinkStation called = station(2);
        chain(called, 2);
        called.define(0, 0, FUNCTION, 0, 0);
        called.define(1, 1, FUNCTION, 0, 0);
        steps(called, 0, row(7, 1), row(12));
        called.load(0, 0);
        is(called.run(0, 9), 4);
        is(called.count(0), 1);
        is(called.count(3), 1);
        steps(called, 1, row(12));
        called.load(0, 0);
        is(called.run(0, 9), 0);
        LinkStation returned = station(1);
        returned.define(0, 0, FUNCTION, 1, 0);
        returned.define(0, 1, FUNCTION, 0, 0);
        steps(returned, 0, row(12), row(7, 1));
        returned.load(0, 0);
        is(returned.run(0, 9), 4);
        is(returned.count(0), 2);
    }

    private static void endsWith4Before1() {
        of("4 (looked at before 1)");
        LinkStation empty = program();
        is(empty.run(0, 0), 4);
        is(empty.count(0), 0);
        LinkStation falls = program(row(0, 0, 1));
        is(falls.run(0, 0), 1);
        is(falls.run(0, 1), 4);
        LinkStation jumps = program(row(6, 99));
        is(jumps.run(0, 1), 4);
        LinkStation returned = station(1);
        returned.define(0, 0, FUNCTION, 1, 0);
        returned.define(0, 1, FUNCTION, 0, 0);
        returned.define(0, 2, FUNCTION, 2, 0);
        steps(returned, 0, row(12), row(7, 1));
        returned.load(0, 0);
        is(returned.run(0, 1), 1);
        is(returned.run(0, 2), 4);
        returned.beginner(0, 1);
        returned.load(0, 0);
        is(returned.run(2, 0), 1);
        is(returned.run(2, 1), 4);
        is(returned.count(0), 1);
        LinkStation called = station(1);
        called.define(0, 0, FUNCTION, 0, 0);
        called.define(0, 1, FUNCTION, 50, 0);
        steps(called, 0, row(7, 1), row(12));
        called.load(0, 0);
        is(called.run(0, 1), 4);
        LinkStation all = program(row(0, 1, 2499), row(0, 2, 1), row(2, 0, 0, 2), row(5, 0, 1, 2));
        is(all.run(0, 5000), 4);
        is(all.count(0), 5000);
        is(all.run(0, 4999), 1);
    }

    private static void after512Calls() {
        of("An object is used for at most 512 calls after it has been made");
        LinkStation x = new LinkStation();
        is(x.module(), 0);
        is(x.define(0, 0, FUNCTION, 0, 0), 1);
        is(x.put(0, 0, 0, 6, 0), 0);
        is(x.put(0, 12, 0, 0, 0), 1);
        for (int call = 5; call <= 511; call += 3) {
            is(x.load(0, call % 2), 0);
            is(x.run(0, 2), 0);
            is(x.register(0), 6);
        }
        is(x.count(0), 2);
        for (int more = 0; more < 100; more++) {
            x.module();
            x.put(0, 7, 0, 0, 0);
            x.load(0, 1);
            x.run(0, 5000);
            x.need(more % 12, more % 7);
        }
    }
}
