import java.util.ArrayList;
import java.util.HashMap;
import java.util.List;
import java.util.Map;
import java.util.Random;

/**
 * Random runs of 512 calls against a second program that decides in another way: it takes
 * intersections of types and complements apart, case by case, down to products and arrows, and
 * those by the known rules for the emptiness of such intersections.
 */
public final class ReferenceTest {

    private static final int RUNS = 2500;
    private static final int CALLS = 512;

    private static int wrong = 0;

    /** Whether the run makes types from a few sets only, so that many of them are made of the same ones. */
    private static boolean fewSets = false;

    private enum Kind { CONSTANTS, PRODUCT, ARROW, UNION, MEET, NOT, ANY }

    /** A type as the document tells it; sorts of values are such types, too, beside the numbered ones. */
    private static final class Type {
        final Kind kind;
        final int mask;
        final Type a;
        final Type b;
        final int id;

        Type(Kind kind, int mask, Type a, Type b, int id) {
            this.kind = kind;
            this.mask = mask;
            this.a = a;
            this.b = b;
            this.id = id;
        }

        int depth() {
            switch (kind) {
                case CONSTANTS:
                case ANY:
                    return 0;
                case PRODUCT:
                case ARROW:
                    return 1 + Math.max(a.depth(), b.depth());
                case NOT:
                    return a.depth();
                default:
                    return Math.max(a.depth(), b.depth());
            }
        }

        boolean isInterface() {
            return kind == Kind.ARROW || kind == Kind.MEET && a.isInterface() && b.isInterface();
        }
    }

    private static final class Value {
        final Type sort;
        final int leaves;

        Value(Type sort, int leaves) {
            this.sort = sort;
            this.leaves = leaves;
        }
    }

    /** The intersection of the types in ins and of the complements of those in outs, as sorted ids. */
    private static final class Literals {
        final List<Type> ins = new ArrayList<>();
        final List<Type> outs = new ArrayList<>();

        Literals copy() {
            Literals l = new Literals();
            l.ins.addAll(ins);
            l.outs.addAll(outs);
            return l;
        }

        Literals in(Type t) {
            if (!ins.contains(t)) {
                ins.add(t);
            }
            return this;
        }

        Literals out(Type t) {
            if (!outs.contains(t)) {
                outs.add(t);
            }
            return this;
        }

        String key() {
            StringBuilder s = new StringBuilder();
            ins.stream().mapToInt(t -> t.id).sorted().forEach(i -> s.append(i).append('+'));
            outs.stream().mapToInt(t -> t.id).sorted().forEach(i -> s.append(i).append('-'));
            return s.toString();
        }
    }

    /** The document's calls, decided by cases. */
    private static final class Reference {
        private final List<Type> types = new ArrayList<>();
        private final List<Value> values = new ArrayList<>();
        private final Map<String, Boolean> known = new HashMap<>();
        private int ids = 0;

        Type fresh(Kind kind, int mask, Type a, Type b) {
            return new Type(kind, mask, a, b, ids++);
        }

        boolean isEmpty(Literals l) {
            String key = l.key();
            Boolean before = known.get(key);
            if (before != null) {
                return before;
            }
            boolean answer = decide(l);
            known.put(key, answer);
            return answer;
        }

        private boolean decide(Literals l) {
            for (Type t : l.ins) {
                if (l.outs.contains(t)) {
                    return true;
                }
            }
            for (Type t : l.ins) {
                Literals rest = l.copy();
                rest.ins.remove(t);
                switch (t.kind) {
                    case ANY: return isEmpty(rest);
                    case NOT: return isEmpty(rest.out(t.a));
                    case MEET: return isEmpty(rest.in(t.a).in(t.b));
                    case UNION: return isEmpty(rest.copy().in(t.a)) && isEmpty(rest.copy().in(t.b));
                    default: break;
                }
            }
            for (Type t : l.outs) {
                Literals rest = l.copy();
                rest.outs.remove(t);
                switch (t.kind) {
                    case ANY: return true;
                    case NOT: return isEmpty(rest.in(t.a));
                    case UNION: return isEmpty(rest.out(t.a).out(t.b));
                    case MEET: return isEmpty(rest.copy().out(t.a)) && isEmpty(rest.copy().out(t.b));
                    default: break;
                }
            }
            return noConstant(l) && noPair(l) && noFunction(l);
        }

        private List<Type> ofKind(List<Type> list, Kind kind) {
            List<Type> found = new ArrayList<>();
            for (Type t : list) {
                if (t.kind == kind) {
                    found.add(t);
                }
            }
            return found;
        }

        private boolean noConstant(Literals l) {
            int left = 63;
            for (Type t : l.ins) {
                left &= t.kind == Kind.CONSTANTS ? t.mask : 0;
            }
            for (Type t : ofKind(l.outs, Kind.CONSTANTS)) {
                left &= ~t.mask;
            }
            return left == 0;
        }

        private boolean noPair(Literals l) {
            List<Type> ins = ofKind(l.ins, Kind.PRODUCT);
            if (ins.size() < l.ins.size()) {
                return true;
            }
            List<Type> outs = ofKind(l.outs, Kind.PRODUCT);
            for (int subset = 0; subset < 1 << outs.size(); subset++) {
                Literals first = new Literals();
                Literals second = new Literals();
                ins.forEach(t -> first.in(t.a));
                ins.forEach(t -> second.in(t.b));
                for (int i = 0; i < outs.size(); i++) {
                    if ((subset >> i & 1) == 1) {
                        first.out(outs.get(i).a);
                    } else {
                        second.out(outs.get(i).b);
                    }
                }
                if (!isEmpty(first) && !isEmpty(second)) {
                    return false;
                }
            }
            return true;
        }

        private boolean noFunction(Literals l) {
            List<Type> ins = ofKind(l.ins, Kind.ARROW);
            if (ins.size() < l.ins.size()) {
                return true;
            }
            for (Type out : ofKind(l.outs, Kind.ARROW)) {
                if (arrowsLieIn(ins, out)) {
                    return true;
                }
            }
            return false;
        }

        private boolean arrowsLieIn(List<Type> ins, Type out) {
            for (int subset = 0; subset < 1 << ins.size(); subset++) {
                Literals from = new Literals().in(out.a);
                Literals to = new Literals().out(out.b);
                boolean mayFail = true;
                for (int i = 0; i < ins.size(); i++) {
                    if ((subset >> i & 1) == 1) {
                        from.out(ins.get(i).a);
                    } else {
                        to.in(ins.get(i).b);
                        mayFail = false;
                    }
                }
                if (!isEmpty(from) && (mayFail || !isEmpty(to))) {
                    return false;
                }
            }
            return true;
        }

        boolean has(int t) {
            return t >= 0 && t < types.size();
        }

        boolean hasValue(int v) {
            return v >= 0 && v < values.size();
        }

        boolean lies(Type a, Type b) {
            return isEmpty(new Literals().in(a).out(b));
        }

        int addType(Kind kind, int mask, Type a, Type b) {
            Type t = fresh(kind, mask, a, b);
            if (types.size() >= 12 || t.depth() > 5) {
                return -1;
            }
            types.add(t);
            return types.size() - 1;
        }

        int make(Kind kind, int a, int b) {
            return has(a) && has(b) ? addType(kind, 0, types.get(a), types.get(b)) : -1;
        }

        int compare(int a, int b) {
            if (!has(a) || !has(b)) {
                return -1;
            }
            Type s = types.get(a);
            Type t = types.get(b);
            if (lies(s, t)) {
                return lies(t, s) ? 3 : 1;
            }
            return lies(t, s) ? 2 : isEmpty(new Literals().in(s).in(t)) ? 4 : 0;
        }

        boolean answers(int a, int b, int c) {
            if (!has(a) || !has(b) || !has(c)) {
                return false;
            }
            Type arrow = fresh(Kind.ARROW, 0, types.get(b), types.get(c));
            return arrow.depth() <= 5 && lies(types.get(a), arrow);
        }

        int addValue(Type sort, int leaves) {
            if (values.size() >= 20 || leaves > 4) {
                return -1;
            }
            values.add(new Value(sort, leaves));
            return values.size() - 1;
        }

        int pair(int v, int w) {
            if (!hasValue(v) || !hasValue(w)) {
                return -1;
            }
            Type sort = fresh(Kind.PRODUCT, 0, values.get(v).sort, values.get(w).sort);
            return addValue(sort, values.get(v).leaves + values.get(w).leaves);
        }

        boolean belongs(int v, int a) {
            return hasValue(v) && has(a) && lies(values.get(v).sort, types.get(a));
        }

        int match(int v, int a, int b, int c) {
            if (!hasValue(v) || !has(a) || !has(b) || !has(c)) {
                return -1;
            }
            return belongs(v, a) ? 1 : belongs(v, b) ? 2 : belongs(v, c) ? 3 : 0;
        }

        int sorts(int v) {
            int found = 0;
            for (int t = 0; t < types.size(); t++) {
                found += belongs(v, t) ? 1 : 0;
            }
            return hasValue(v) ? found : -1;
        }

        int cut(int n) {
            values.clear();
            while (types.size() > Math.max(n, 0)) {
                types.remove(types.size() - 1);
            }
            return types.size();
        }
    }

    public static void main(String[] args) {
        Random random = new Random(7L);
        for (int run = 0; run < RUNS; run++) {
            MeaningTypes x = new MeaningTypes();
            Reference r = new Reference();
            int makers = random.nextInt(3);
            fewSets = run % 2 == 1;
            for (int call = 1; call < CALLS; call++) {
                oneCall(random, x, r, run, makers);
            }
            due(run, "types at the end", x.types(), r.types.size());
        }
        for (int run = 0; run < RUNS; run++) {
            mixedSigns(random, run);
        }
        dearCallsEnd();
        System.out.println(wrong == 0 ? "ReferenceTest: all answers are as due" : "ReferenceTest: " + wrong + " wrong");
        if (wrong != 0) {
            System.exit(1);
        }
    }

    private static int mask(Random random) {
        return fewSets && random.nextInt(20) != 0 ? random.nextInt(4) : random.nextInt(68) - 2;
    }

    /** A part for a new type: in a run of few sets mostly one of the first types. */
    private static int part(Random random, int count) {
        return fewSets && random.nextInt(4) != 0 ? random.nextInt(Math.max(Math.min(count, 5), 1)) : number(random, count);
    }

    private static int number(Random random, int count) {
        return random.nextInt(30) == 0 ? random.nextInt(count + 4) - 2 : random.nextInt(Math.max(count, 1));
    }

    private static void oneCall(Random random, MeaningTypes x, Reference r, int run, int makers) {
        int which = random.nextInt(100);
        if (which < 15 + 10 * makers) {
            makeType(random, x, r, run);
        } else if (which < 60) {
            ask(random, x, r, run);
        } else if (which < 97) {
            useValues(random, x, r, run);
        } else {
            int n = r.types.size() - random.nextInt(8) + 1;
            due(run, "cut " + n, x.cut(n), r.cut(n));
        }
    }

    private static void makeType(Random random, MeaningTypes x, Reference r, int run) {
        int a = part(random, r.types.size());
        int b = part(random, r.types.size());
        switch (r.types.size() < (fewSets ? 4 : 2) ? random.nextInt(3) / 2 * 10 : random.nextInt(12)) {
            case 0: {
                int mask = mask(random);
                int want = mask < 0 || mask > 63 ? -1 : r.addType(Kind.CONSTANTS, mask, null, null);
                due(run, "constants " + mask, x.constants(mask), want);
                break;
            }
            case 1:
            case 2:
            case 3: due(run, "product", x.product(a, b), r.make(Kind.PRODUCT, a, b)); break;
            case 4:
            case 5:
            case 6: due(run, "arrow", x.arrow(a, b), r.make(Kind.ARROW, a, b)); break;
            case 7: due(run, "union", x.union(a, b), r.make(Kind.UNION, a, b)); break;
            case 8:
            case 9: due(run, "meet", x.meet(a, b), r.make(Kind.MEET, a, b)); break;
            case 10: due(run, "any", x.any(), r.addType(Kind.ANY, 0, null, null)); break;
            default: due(run, "not", x.not(a), r.make(Kind.NOT, a, a)); break;
        }
    }

    /**
     * Few flat types, five arrows or products of them and of one another, and then, again and again,
     * three types that mix those: whether an intersection of some lies in the union of others takes
     * several steps of a function, or several splits of a product, to tell.
     */
    private static void mixedSigns(Random random, int run) {
        MeaningTypes x = new MeaningTypes();
        Reference r = new Reference();
        due(run, "constants 0", x.constants(0), r.addType(Kind.CONSTANTS, 0, null, null));
        for (int t = 1; t < 3; t++) {
            int mask = random.nextInt(8);
            due(run, "constants " + mask, x.constants(mask), r.addType(Kind.CONSTANTS, mask, null, null));
        }
        due(run, "any", x.any(), r.addType(Kind.ANY, 0, null, null));
        for (int t = 4; t < 9; t++) {
            int a = random.nextInt(random.nextInt(3) == 0 ? t : 4);
            int b = random.nextInt(random.nextInt(3) == 0 ? t : 4);
            if (random.nextInt(8) < run % 9) {
                due(run, "arrow", x.arrow(a, b), r.make(Kind.ARROW, a, b));
            } else {
                due(run, "product", x.product(a, b), r.make(Kind.PRODUCT, a, b));
            }
        }
        for (int round = 0; round < 50; round++) {
            due(run, "cut 9", x.cut(9), r.cut(9));
            for (int t = 9; t < 12; t++) {
                int a = 3 + random.nextInt(t - 3);
                int b = 3 + random.nextInt(t - 3);
                switch (random.nextInt(5)) {
                    case 0: due(run, "not", x.not(a), r.make(Kind.NOT, a, a)); break;
                    case 1:
                    case 2: due(run, "meet", x.meet(a, b), r.make(Kind.MEET, a, b)); break;
                    default: due(run, "union", x.union(a, b), r.make(Kind.UNION, a, b)); break;
                }
            }
            for (int question = 0; question < 5; question++) {
                int a = 3 + random.nextInt(9);
                int b = 9 + random.nextInt(3);
                due(run, "compare " + a + " " + b, x.compare(a, b), r.compare(a, b));
            }
        }
    }

    private static void ask(Random random, MeaningTypes x, Reference r, int run) {
        int a = number(random, r.types.size());
        int b = number(random, r.types.size());
        int c = number(random, r.types.size());
        switch (random.nextInt(5)) {
            case 0: due(run, "empty", x.empty(a), r.has(a) && r.isEmpty(new Literals().in(r.types.get(a)))); break;
            case 1: due(run, "within", x.within(a, b), r.has(a) && r.has(b) && r.lies(r.types.get(a), r.types.get(b))); break;
            case 2: due(run, "compare", x.compare(a, b), r.compare(a, b)); break;
            case 3: due(run, "types", x.types(), r.types.size()); break;
            default: due(run, "answers", x.answers(a, b, c), r.answers(a, b, c)); break;
        }
    }

    private static void useValues(Random random, MeaningTypes x, Reference r, int run) {
        int v = number(random, r.values.size());
        int w = number(random, r.values.size());
        int a = number(random, r.types.size());
        int b = number(random, r.types.size());
        int c = number(random, r.types.size());
        switch (random.nextInt(7)) {
            case 0: {
                int k = random.nextInt(8) - 1;
                int want = k < 0 || k > 5 ? -1 : r.addValue(r.fresh(Kind.CONSTANTS, 1 << k, null, null), 1);
                due(run, "constant " + k, x.constant(k), want);
                break;
            }
            case 1: due(run, "pair", x.pair(v, w), r.pair(v, w)); break;
            case 2:
            case 3: {
                int want = r.has(a) && r.types.get(a).isInterface() ? r.addValue(r.types.get(a), 1) : -1;
                due(run, "function", x.function(a), want);
                break;
            }
            case 4: due(run, "belongs", x.belongs(v, a), r.belongs(v, a)); break;
            case 5: due(run, "match", x.match(v, a, b, c), r.match(v, a, b, c)); break;
            default: due(run, "sorts", x.sorts(v), r.sorts(v)); break;
        }
    }

    /** Many products and arrows that are free of one another have the greatest sets of profiles. */
    private static void dearCallsEnd() {
        for (int arrows = 0; arrows <= 8; arrows++) {
            MeaningTypes x = new MeaningTypes();
            x.constants(21);
            x.constants(38);
            x.constants(56);
            int t = 3;
            for (int call = 3; call < CALLS; call++) {
                if (t == 12) {
                    t = 3 + call % 8;
                    due(-1, "a cut", x.cut(t), t);
                    continue;
                }
                int a = t * 5 % Math.min(t, 7);
                int b = t * 3 % Math.min(t, 7);
                due(-1, "a dear type", t < 12 - arrows ? x.product(a, b) : x.arrow(b, a), t);
                t++;
            }
        }
    }

    private static void due(int run, String what, boolean got, boolean want) {
        due(run, what, got ? 1 : 0, want ? 1 : 0);
    }

    private static void due(int run, String what, int got, int want) {
        if (got != want) {
            wrong++;
            if (wrong < 20) {
                System.out.println("run " + run + ": " + what + " answered " + got + ", due is " + want);
            }
        }
    }
}
