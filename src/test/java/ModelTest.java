import java.util.ArrayDeque;
import java.util.ArrayList;
import java.util.Deque;
import java.util.HashMap;
import java.util.HashSet;
import java.util.LinkedHashMap;
import java.util.LinkedHashSet;
import java.util.List;
import java.util.Map;
import java.util.Random;
import java.util.Set;

/**
 * Long runs of calls, from fixed seeds, whose answers are compared with those of a second model. It
 * is written from the document's words by other means (maps, sets and Java's own recursion), so that
 * a slip in one of the two is not likely to stand in the other.
 */
public final class ModelTest {
    private static final int STATIONS = 6000;
    private static final int CALLS = 500;
    private static final int NONE = -1;

    public static void main(String[] args) {
        int[] ends = new int[6];
        int[] loads = new int[4];
        for (int seed = 0; seed < STATIONS; seed++) {
            String told = new Pair(new Random(seed), ends, loads).play();
            if (told != null) {
                System.out.println("seed " + seed + ": " + told);
                System.exit(1);
            }
        }
        for (int end : ends) {
            if (end < 100) {
                System.out.println("some end of a run was met too seldom for this test to say much");
                System.exit(1);
            }
        }
        for (int load : loads) {
            if (load < 100) {
                System.out.println("some end of a load was met too seldom for this test to say much");
                System.exit(1);
            }
        }
        System.out.println("the two models agree");
    }

    private record Definition(int module, int kind, int value, int how) {
        boolean weak() {
            return how % 2 == 1;
        }

        boolean own() {
            return how == 2 || how == 3;
        }

        boolean hidden() {
            return how >= 4;
        }
    }

    private record Step(int op, int a, int b, int c) {
    }

    private static final class Part {
        final Set<Integer> needs = new LinkedHashSet<>();
        final Map<Integer, Definition> definitions = new HashMap<>();
        final Set<Integer> optionals = new HashSet<>();
        final List<Step> steps = new ArrayList<>();
        int beginner = NONE;
    }

    private record Spot(int module, int name) {
    }

    /** The program and the model, given the same calls. */
    private static final class Pair {
        final Random random;
        final int[] ends;
        final int[] loads;
        final LinkStation station = new LinkStation();
        final Model model = new Model();
        final int names;
        final int shape;

        Pair(Random random, int[] ends, int[] loads) {
            this.random = random;
            this.ends = ends;
            this.loads = loads;
            this.names = 3 + random.nextInt(12);
            this.shape = random.nextInt(4);
        }

        String play() {
            int count = 1 + random.nextInt(random.nextInt(8) == 0 ? 13 : 5);
            String told = null;
            for (int m = 0; m < count && told == null; m++) {
                told = compare("module()", station.module(), model.module());
            }
            int calls = 20 + random.nextInt(CALLS);
            for (int k = 0; k < calls && told == null; k++) {
                told = k < calls / 2 ? build() : random.nextInt(12) == 0 ? build() : use();
            }
            return told == null ? compareAll() : told;
        }

        static String compare(String call, int got, int want) {
            return got == want ? null : call + " answered " + got + ", due is " + want;
        }

        int some(int bound) {
            return random.nextInt(40) == 0 ? bound + random.nextInt(2) - random.nextInt(2) * (bound + 1) : random.nextInt(bound);
        }

        int someModule() {
            return some(Math.max(1, model.parts.size()));
        }

        int someName() {
            return random.nextInt(50) == 0 ? some(64) : random.nextInt(names);
        }

        String build() {
            int m = someModule();
            switch (random.nextInt(14)) {
                case 0: {
                    int other = someModule();
                    return compare("need(" + m + ", " + other + ")", station.need(m, other), model.need(m, other));
                }
                case 1: case 2: case 3: {
                    int name = someName();
                    int kind = random.nextInt(40) == 0 ? some(2) : name % 3 == 0 ? 1 : 0;
                    int v = kind == 1 ? random.nextInt(9) - 4 : some(random.nextInt(30) == 0 ? 100 : 12);
                    int how = random.nextBoolean() ? 0 : some(6);
                    return compare("define(" + m + ", " + name + ", " + kind + ", " + v + ", " + how + ")",
                        station.define(m, name, kind, v, how), model.define(m, name, kind, v, how));
                }
                case 4: {
                    int name = someName();
                    return compare("optional(" + m + ", " + name + ")", station.optional(m, name), model.optional(m, name));
                }
                case 5: {
                    int name = random.nextInt(3) == 0 ? NONE : someName();
                    return compare("beginner(" + m + ", " + name + ")", station.beginner(m, name), model.beginner(m, name));
                }
                default:
                    return put(m);
            }
        }

        int someRegister() {
            return some(random.nextBoolean() ? 8 : 3);
        }

        String put(int m) {
            int op = random.nextInt(60) == 0 ? some(15) : random.nextInt(15);
            if (op == 12 && shape == 1 || op == 14 && shape >= 1) {
                op = 7;
            }
            int a = someRegister();
            int b = someRegister();
            int c = op == 5 ? some(12) : someRegister();
            if (op == 0) {
                int place = 1000 * (1 + random.nextInt(4)) + random.nextInt(12);
                b = random.nextBoolean() ? random.nextInt(5) - 2 : random.nextInt(20) == 0 ? random.nextInt() : place;
            } else if (op == 6) {
                a = some(12);
            } else if (op == 7) {
                a = nameOfKind(0);
            } else if (op == 8) {
                b = nameOfKind(1);
            } else if (op == 9) {
                a = nameOfKind(1);
            } else if (op == 10) {
                b = nameOfKind(0);
            }
            String call = "put(" + m + ", " + op + ", " + a + ", " + b + ", " + c + ")";
            return compare(call, station.put(m, op, a, b, c), model.put(m, op, a, b, c));
        }

        int nameOfKind(int kind) {
            int name = someName();
            return random.nextInt(60) == 0 || (name % 3 == 0) == (kind == 1) ? name : kind == 1 ? name / 3 * 3 : name + 1;
        }

        String use() {
            if (model.root == NONE && random.nextInt(3) > 0) {
                optionalForTheFault();
                return load();
            }
            switch (random.nextInt(16)) {
                case 0:
                    return load();
                case 1: case 2: case 3: case 4: {
                    int entry = someName();
                    int steps = random.nextInt(3) == 0 ? some(5001) : some(40);
                    int got = station.run(entry, steps);
                    if (got >= -1 && got <= 4) {
                        ends[got + 1]++;
                    }
                    return compare("run(" + entry + ", " + steps + ")", got, model.run(entry, steps));
                }
                case 5: {
                    int what = some(3);
                    return compare("fault(" + what + ")", station.fault(what), model.fault(what));
                }
                case 6: {
                    int place = some(12);
                    int what = some(2);
                    return compare("order(" + place + ", " + what + ")", station.order(place, what), model.order(place, what));
                }
                case 7: {
                    int m = someModule();
                    int name = someName();
                    return compare("comes(" + m + ", " + name + ")", station.comes(m, name), model.comes(m, name));
                }
                case 8: case 9: {
                    int m = someModule();
                    int name = someName();
                    return compare("bound(" + m + ", " + name + ")", station.bound(m, name), model.bound(m, name));
                }
                case 10: {
                    int what = some(6);
                    return compare("count(" + what + ")", station.count(what), model.count(what));
                }
                case 11: {
                    int k = some(random.nextBoolean() ? 5 : 60);
                    return compare("said(" + k + ")", station.said(k), model.said(k));
                }
                case 12: {
                    int r = some(8);
                    return compare("register(" + r + ")", station.register(r), model.register(r));
                }
                case 13: {
                    int m = someModule();
                    int name = someName();
                    return compare("datum(" + m + ", " + name + ")", station.datum(m, name), model.datum(m, name));
                }
                case 14:
                    return compareAll();
                default:
                    return random.nextInt(9) > 0 ? null : compare("module()", station.module(), model.module());
            }
        }

        /** Without it nearly every load would end with fault 1. */
        void optionalForTheFault() {
            if (model.faultKind == 1 && random.nextInt(5) > 0) {
                station.optional(model.fault(0), model.fault(2));
                model.optional(model.fault(0), model.fault(2));
            }
        }

        String load() {
            int root = someModule();
            int lazy = some(2);
            int got = station.load(root, lazy);
            if (got >= -1 && got <= 2) {
                loads[got + 1]++;
            }
            return compare("load(" + root + ", " + lazy + ")", got, model.load(root, lazy));
        }

        String compareAll() {
            for (int m = -1; m <= 12; m++) {
                for (int name = -1; name <= 64; name++) {
                    String at = "(" + m + ", " + name + ")";
                    String told = compare("comes" + at, station.comes(m, name), model.comes(m, name));
                    told = told != null ? told : compare("bound" + at, station.bound(m, name), model.bound(m, name));
                    told = told != null ? told : compare("datum" + at, station.datum(m, name), model.datum(m, name));
                    if (told != null) {
                        return told;
                    }
                }
            }
            for (int k = -1; k <= 62; k++) {
                String told = compare("said(" + k + ")", station.said(k), model.said(k));
                told = told != null ? told : compare("register(" + k + ")", station.register(k), model.register(k));
                told = told != null ? told : compare("count(" + k + ")", station.count(k), model.count(k));
                told = told != null ? told : compare("fault(" + k + ")", station.fault(k), model.fault(k));
                told = told != null ? told : compare("order(" + k + ", 0)", station.order(k, 0), model.order(k, 0));
                told = told != null ? told : compare("order(" + k + ", 1)", station.order(k, 1), model.order(k, 1));
                if (told != null) {
                    return told;
                }
            }
            return compare("check()", station.check(), 1);
        }
    }

    private static final class Model {
        final List<Part> parts = new ArrayList<>();
        int root = NONE;
        boolean lazy = false;
        List<Integer> loaded = new ArrayList<>();
        List<Integer> begun = new ArrayList<>();
        final Map<Spot, Integer> slots = new LinkedHashMap<>();
        final Map<Spot, Integer> data = new HashMap<>();
        int faultKind = 0;
        int[] faultAt = {NONE, NONE, NONE};
        int[] registers = new int[8];
        List<Integer> sayings = new ArrayList<>();
        int made = 0;
        int boundInRun = 0;
        int deepest = 0;

        int module() {
            if (parts.size() == 12) {
                return NONE;
            }
            parts.add(new Part());
            return parts.size() - 1;
        }

        boolean within(int value, int bound) {
            return 0 <= value && value < bound;
        }

        void unload() {
            root = NONE;
            loaded = new ArrayList<>();
            begun = new ArrayList<>();
            slots.clear();
            data.clear();
        }

        int need(int m, int other) {
            if (!within(m, parts.size()) || !within(other, parts.size()) || parts.get(m).needs.size() == 6
                || !parts.get(m).needs.add(other)) {
                return NONE;
            }
            unload();
            return parts.get(m).needs.size();
        }

        int define(int m, int name, int kind, int v, int how) {
            if (!within(m, parts.size()) || !within(name, 64) || !within(kind, 2) || !within(how, 6)
                || kind == 0 && !within(v, 100)) {
                return NONE;
            }
            Map<Integer, Definition> definitions = parts.get(m).definitions;
            if (definitions.containsKey(name) || definitions.size() == 20) {
                return NONE;
            }
            definitions.put(name, new Definition(m, kind, v, how));
            unload();
            return definitions.size();
        }

        int optional(int m, int name) {
            if (!within(m, parts.size()) || !within(name, 64) || !parts.get(m).optionals.add(name)) {
                return 0;
            }
            unload();
            return 1;
        }

        int beginner(int m, int name) {
            if (!within(m, parts.size()) || !within(name + 1, 65)) {
                return 0;
            }
            parts.get(m).beginner = name;
            unload();
            return 1;
        }

        int put(int m, int op, int a, int b, int c) {
            if (!within(m, parts.size()) || !within(op, 15) || parts.get(m).steps.size() == 100) {
                return NONE;
            }
            boolean firstIsRegister = op <= 5 || op == 8 || op == 10 || op == 11 || op == 13;
            boolean secondIsRegister = op >= 1 && op <= 5 || op == 9;
            boolean thirdIsRegister = op >= 2 && op <= 4;
            if (firstIsRegister && !within(a, 8) || secondIsRegister && !within(b, 8)
                || thirdIsRegister && !within(c, 8) || op == 5 && !within(c, 100) || op == 6 && !within(a, 100)
                || (op == 7 || op == 9) && !within(a, 64) || (op == 8 || op == 10) && !within(b, 64)) {
                return NONE;
            }
            parts.get(m).steps.add(new Step(op, a, b, c));
            unload();
            return parts.get(m).steps.size() - 1;
        }

        List<Integer> orderFrom(int from) {
            Set<Integer> found = new LinkedHashSet<>();
            Deque<Integer> waiting = new ArrayDeque<>();
            waiting.add(from);
            found.add(from);
            while (!waiting.isEmpty()) {
                for (int other : parts.get(waiting.remove()).needs) {
                    if (found.add(other)) {
                        waiting.add(other);
                    }
                }
            }
            return new ArrayList<>(found);
        }

        void begin(int m, Set<Integer> met, List<Integer> done) {
            if (met.add(m)) {
                for (int other : parts.get(m).needs) {
                    begin(other, met, done);
                }
                done.add(m);
            }
        }

        Definition meaning(List<Integer> among, int m, int name) {
            Definition here = parts.get(m).definitions.get(name);
            if (here != null && (here.own() || here.hidden())) {
                return here;
            }
            List<Definition> strong = new ArrayList<>();
            List<Definition> all = new ArrayList<>();
            for (int other : among) {
                Definition there = parts.get(other).definitions.get(name);
                if (there != null && !there.hidden()) {
                    all.add(there);
                    if (!there.weak()) {
                        strong.add(there);
                    }
                }
            }
            return !strong.isEmpty() ? strong.get(0) : all.isEmpty() ? null : all.get(0);
        }

        int faultOf(List<Integer> among, int m, int name, int kind) {
            Definition meant = meaning(among, m, name);
            if (meant == null) {
                return parts.get(m).optionals.contains(name) ? 0 : 1;
            }
            return meant.kind() == kind ? 0 : 2;
        }

        int findFault(List<Integer> among) {
            for (int m : among) {
                Part part = parts.get(m);
                int kind = part.beginner == NONE ? 0 : faultOf(among, m, part.beginner, 0);
                if (kind != 0) {
                    faultAt = new int[] {m, NONE, part.beginner};
                    return kind;
                }
                for (int s = 0; s < part.steps.size(); s++) {
                    Step step = part.steps.get(s);
                    if (step.op() < 7 || step.op() > 10) {
                        continue;
                    }
                    int name = step.op() == 7 || step.op() == 9 ? step.a() : step.b();
                    kind = faultOf(among, m, name, step.op() == 8 || step.op() == 9 ? 1 : 0);
                    if (kind != 0) {
                        faultAt = new int[] {m, s, name};
                        return kind;
                    }
                }
            }
            faultAt = new int[] {NONE, NONE, NONE};
            return 0;
        }

        int load(int from, int way) {
            if (!within(from, parts.size()) || !within(way, 2)) {
                return NONE;
            }
            List<Integer> order = orderFrom(from);
            faultKind = findFault(order);
            if (faultKind == 0) {
                root = from;
                loaded = order;
                begun = new ArrayList<>();
                begin(from, new HashSet<>(), begun);
                lazy = way == 1;
                refresh();
            }
            return faultKind;
        }

        void refresh() {
            slots.clear();
            data.clear();
            for (int m : loaded) {
                for (Map.Entry<Integer, Definition> each : parts.get(m).definitions.entrySet()) {
                    if (each.getValue().kind() == 1) {
                        data.put(new Spot(m, each.getKey()), each.getValue().value());
                    }
                }
                for (Step step : parts.get(m).steps) {
                    if (step.op() == 7) {
                        slots.put(new Spot(m, step.a()), lazy ? 21 : comes(m, step.a()));
                    }
                }
            }
        }

        int fault(int what) {
            return within(what, 3) ? faultAt[what] : NONE;
        }

        int order(int place, int what) {
            return within(place, loaded.size()) && within(what, 2) ? (what == 0 ? loaded : begun).get(place) : NONE;
        }

        int comes(int m, int name) {
            if (!loaded.contains(m) || !within(name, 64)) {
                return NONE;
            }
            Definition meant = meaning(loaded, m, name);
            return meant == null ? 20 : meant.module();
        }

        int bound(int m, int name) {
            return slots.getOrDefault(new Spot(m, name), NONE);
        }

        int datum(int m, int name) {
            return data.getOrDefault(new Spot(m, name), NONE);
        }

        int said(int k) {
            return within(k, Math.min(60, sayings.size())) ? sayings.get(k) : 0;
        }

        int register(int r) {
            return within(r, 8) ? registers[r] : 0;
        }

        int count(int what) {
            int[] answers = {made, sayings.size(), boundInRun, deepest, loaded.size(), parts.size()};
            return within(what, 6) ? answers[what] : NONE;
        }

        int run(int entry, int steps) {
            if (root == NONE || !within(entry, 64) || !within(steps, 5001)) {
                return NONE;
            }
            Definition first = meaning(loaded, root, entry);
            if (first == null || first.kind() == 1) {
                return NONE;
            }
            refresh();
            registers = new int[8];
            sayings = new ArrayList<>();
            made = 0;
            boundInRun = 0;
            deepest = 0;
            for (int m : begun) {
                Definition beginner = parts.get(m).beginner == NONE ? null : meaning(loaded, m, parts.get(m).beginner);
                int end = beginner == null ? NONE : carryOut(beginner, 0, steps);
                if (end != NONE) {
                    return end;
                }
            }
            int end = carryOut(first, 0, steps);
            return end == NONE ? 0 : end;
        }

        /** Carries a function out by Java's own calls: NONE when it comes back, else how the run ends. */
        int carryOut(Definition function, int depth, int granted) {
            deepest = Math.max(deepest, depth);
            int m = function.module();
            List<Step> steps = parts.get(m).steps;
            int at = function.value();
            while (at < steps.size()) {
                if (made == granted) {
                    return 1;
                }
                made++;
                Step step = steps.get(at++);
                if (step.op() == 12) {
                    return NONE;
                } else if (step.op() == 14) {
                    return 0;
                } else if (step.op() == 6) {
                    at = step.a();
                } else if (step.op() == 5) {
                    at = registers[step.a()] < registers[step.b()] ? step.c() : at;
                } else if (step.op() == 7 || step.op() == 11) {
                    Definition called = step.op() == 7 ? throughSlot(m, step.a()) : atAddress(registers[step.a()]);
                    int end = called == null ? 3 : depth == 100 ? 2 : carryOut(called, depth + 1, granted);
                    if (end != NONE) {
                        return end;
                    }
                } else {
                    make(m, step);
                }
            }
            return 4;
        }

        Definition throughSlot(int m, int name) {
            Spot slot = new Spot(m, name);
            if (slots.get(slot) == 21) {
                slots.put(slot, comes(m, name));
                boundInRun++;
            }
            return slots.get(slot) == 20 ? null : parts.get(slots.get(slot)).definitions.get(name);
        }

        Definition atAddress(int address) {
            for (int m : loaded) {
                for (Definition each : parts.get(m).definitions.values()) {
                    if (each.kind() == 0 && addressOf(each) == address) {
                        return each;
                    }
                }
            }
            return null;
        }

        int addressOf(Definition function) {
            return function == null ? 0 : 1000 * (loaded.indexOf(function.module()) + 1) + function.value();
        }

        void make(int m, Step step) {
            int a = step.a();
            switch (step.op()) {
                case 0 -> registers[a] = step.b();
                case 1 -> registers[a] = registers[step.b()];
                case 2 -> registers[a] = registers[step.b()] + registers[step.c()];
                case 3 -> registers[a] = registers[step.b()] - registers[step.c()];
                case 4 -> registers[a] = registers[step.b()] * registers[step.c()];
                case 8 -> registers[a] = data.getOrDefault(new Spot(comes(m, step.b()), step.b()), 0);
                case 9 -> data.replace(new Spot(comes(m, a), a), registers[step.b()]);
                case 10 -> registers[a] = addressOf(meaning(loaded, m, step.b()));
                default -> sayings.add(registers[a]);
            }
        }
    }
}
