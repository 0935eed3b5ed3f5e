import java.util.ArrayList;
import java.util.List;
import java.util.Random;

/**
 * The meanings by the definition itself: elements are built and looked up in types one by one.
 *
 * <p>With at most two arrows, and parts of products and arrows that are of depth 0, the elements
 * below are enough to tell any two types apart: a function is outside of an arrow by one step, and
 * a step matters only by where its ends lie in types of depth 0.
 *
 * <p>With four arrows, a function may need four steps to be outside of all: there it is asked for
 * each arrow that should not have the function whether a single step keeps it out of that one and
 * out of none that should have it; the function of these steps is then the one that is looked for.
 */
public final class ElementsTest {

    private static final int RUNS = 400;
    private static final int FAILURE = -1;

    private static final List<Element> SIMPLE = new ArrayList<>();
    private static final List<Element> ONE_STEP = new ArrayList<>();
    private static final List<Element> ALL = new ArrayList<>();

    private static int wrong = 0;

    /** A constant, a pair, or a function with steps from starts[i] to ends[i]; a null end is failure. */
    private static final class Element {
        int constant = FAILURE;
        Element first;
        Element second;
        List<Element> starts;
        List<Element> ends;
    }

    /** How a type was made. */
    private static final class Type {
        final String kind;
        final int a;
        final int b;

        Type(String kind, int a, int b) {
            this.kind = kind;
            this.a = a;
            this.b = b;
        }
    }

    public static void main(String[] args) {
        makeElements();
        Random random = new Random(20261115L);
        for (int run = 0; run < RUNS; run++) {
            tryTypes(random, run);
            trySigns(random, run, "arrow");
            trySigns(random, run, "product");
        }
        System.out.println(wrong == 0 ? "ElementsTest: all answers are as due" : "ElementsTest: " + wrong + " wrong");
        if (wrong != 0) {
            System.exit(1);
        }
    }

    private static void makeElements() {
        for (int c = 0; c < 6; c++) {
            Element e = new Element();
            e.constant = c;
            SIMPLE.add(e);
        }
        SIMPLE.add(pairOf(SIMPLE.get(0), SIMPLE.get(0)));
        SIMPLE.add(functionOf());
        for (int c = 0; c < 6; c++) {
            ALL.add(SIMPLE.get(c));
        }
        for (Element e : SIMPLE) {
            for (Element f : SIMPLE) {
                ALL.add(pairOf(e, f));
            }
        }
        addFunctions();
    }

    private static void addFunctions() {
        for (Element from : SIMPLE) {
            for (Element to : SIMPLE) {
                ONE_STEP.add(functionOf(from, to));
            }
            ONE_STEP.add(functionOf(from, null));
        }
        ALL.add(functionOf());
        for (int i = 0; i < ONE_STEP.size(); i++) {
            for (int j = 0; j <= i; j++) {
                Element s = ONE_STEP.get(i);
                Element t = ONE_STEP.get(j);
                ALL.add(functionOf(s.starts.get(0), s.ends.get(0), t.starts.get(0), t.ends.get(0)));
            }
        }
    }

    private static Element pairOf(Element first, Element second) {
        Element e = new Element();
        e.first = first;
        e.second = second;
        return e;
    }

    private static Element functionOf(Element... startsAndEnds) {
        Element e = new Element();
        e.starts = new ArrayList<>();
        e.ends = new ArrayList<>();
        for (int i = 0; i < startsAndEnds.length; i += 2) {
            e.starts.add(startsAndEnds[i]);
            e.ends.add(startsAndEnds[i + 1]);
        }
        return e;
    }

    private static boolean isIn(Element e, int t, List<Type> types) {
        Type type = types.get(t);
        switch (type.kind) {
            case "constants":
                return e.constant >= 0 && (type.a >> e.constant & 1) == 1;
            case "any":
                return true;
            case "union":
                return isIn(e, type.a, types) || isIn(e, type.b, types);
            case "meet":
                return isIn(e, type.a, types) && isIn(e, type.b, types);
            case "not":
                return !isIn(e, type.a, types);
            case "product":
                return e.first != null && isIn(e.first, type.a, types) && isIn(e.second, type.b, types);
            default:
                return e.starts != null && allStepsKeep(e, type, types);
        }
    }

    private static boolean allStepsKeep(Element e, Type arrow, List<Type> types) {
        for (int i = 0; i < e.starts.size(); i++) {
            Element end = e.ends.get(i);
            if (isIn(e.starts.get(i), arrow.a, types) && (end == null || !isIn(end, arrow.b, types))) {
                return false;
            }
        }
        return true;
    }

    private static void tryTypes(Random random, int run) {
        MeaningTypes x = new MeaningTypes();
        List<Type> types = new ArrayList<>();
        int flat = 2 + random.nextInt(3);
        for (int t = 0; t < flat; t++) {
            makeFlat(random, x, types);
        }
        int arrows = random.nextInt(3);
        int products = random.nextInt(4);
        for (int i = 0; i < arrows + products; i++) {
            String kind = i < arrows ? "arrow" : "product";
            make(x, types, new Type(kind, random.nextInt(flat), random.nextInt(flat)));
        }
        while (types.size() < 12) {
            makeBoolean(random, x, types);
        }
        compareAll(x, types, run);
    }

    private static void makeFlat(Random random, MeaningTypes x, List<Type> types) {
        if (types.size() < 2) {
            make(x, types, new Type("constants", random.nextInt(64), 0));
            return;
        }
        if (random.nextInt(4) == 0) {
            make(x, types, new Type("any", 0, 0));
        } else {
            makeBoolean(random, x, types);
        }
    }

    private static void makeBoolean(Random random, MeaningTypes x, List<Type> types) {
        String[] kinds = {"union", "meet", "not"};
        make(x, types, new Type(kinds[random.nextInt(3)], random.nextInt(types.size()), random.nextInt(types.size())));
    }

    private static void make(MeaningTypes x, List<Type> types, Type type) {
        types.add(type);
        switch (type.kind) {
            case "constants": x.constants(type.a); break;
            case "any": x.any(); break;
            case "union": x.union(type.a, type.b); break;
            case "meet": x.meet(type.a, type.b); break;
            case "not": x.not(type.a); break;
            case "product": x.product(type.a, type.b); break;
            default: x.arrow(type.a, type.b); break;
        }
    }

    private static void compareAll(MeaningTypes x, List<Type> types, int run) {
        boolean[][] in = new boolean[types.size()][ALL.size()];
        for (int t = 0; t < types.size(); t++) {
            for (int e = 0; e < ALL.size(); e++) {
                in[t][e] = isIn(ALL.get(e), t, types);
            }
        }
        for (int a = 0; a < types.size(); a++) {
            due(run, "empty " + a, x.empty(a), !someIn(in[a], in[a]));
            for (int b = 0; b < types.size(); b++) {
                boolean forth = lies(in[a], in[b]);
                boolean back = lies(in[b], in[a]);
                due(run, "within " + a + " " + b, x.within(a, b), forth);
                int want = forth && back ? 3 : forth ? 1 : back ? 2 : someIn(in[a], in[b]) ? 0 : 4;
                due(run, "compare " + a + " " + b + " is " + want, x.compare(a, b) == want, true);
            }
        }
    }

    /** Types 0: nothing, 1: all functions or pairs, 2 .. 4: of depth 0, 5 .. 8: four arrows or products. */
    private static void trySigns(Random random, int run, String kind) {
        MeaningTypes x = new MeaningTypes();
        List<Type> types = new ArrayList<>();
        boolean ofArrows = kind.equals("arrow");
        make(x, types, ofArrows ? new Type("constants", 0, 0) : new Type("any", 0, 0));
        make(x, types, new Type(kind, 0, 0));
        for (int t = 2; t < 5; t++) {
            boolean alone = random.nextInt(3) != 0;
            make(x, types, new Type("constants", alone ? 1 << t : random.nextInt(64), 0));
        }
        for (int t = 5; t < 9; t++) {
            make(x, types, new Type(kind, random.nextInt(random.nextInt(2) == 0 ? t - 3 : 5), random.nextInt(5)));
        }
        for (int inside = 0; inside < 16; inside++) {
            x.cut(9);
            int all = chain(x, inside, true);
            int some = chain(x, 15 & ~inside, false);
            boolean found = ofArrows ? hasFunction(types, inside) : hasPair(types, inside);
            if (inside == 15) {
                due(run, kind + "s, empty", x.empty(all), !found);
            } else {
                due(run, kind + "s, signs " + inside, x.within(inside == 0 ? 1 : all, some), !found);
            }
        }
    }

    /** The intersection or the union of the types 5 + i for the bits i of chosen; -1 for none. */
    private static int chain(MeaningTypes x, int chosen, boolean asMeet) {
        int made = -1;
        for (int i = 0; i < 4; i++) {
            if ((chosen >> i & 1) == 1) {
                int t = 5 + i;
                made = made < 0 ? t : asMeet ? x.meet(made, t) : x.union(made, t);
            }
        }
        return made;
    }

    /** Whether some function is in the arrows of the bits of inside, and in none of the others. */
    private static boolean hasFunction(List<Type> types, int inside) {
        for (int i = 0; i < 4; i++) {
            if ((inside >> i & 1) == 0 && !hasStepAgainst(types, i, inside)) {
                return false;
            }
        }
        return true;
    }

    private static boolean hasStepAgainst(List<Type> types, int i, int inside) {
        for (Element step : ONE_STEP) {
            if (!isIn(step, 5 + i, types) && (signs(step, types) & inside) == inside) {
                return true;
            }
        }
        return false;
    }

    private static boolean hasPair(List<Type> types, int inside) {
        for (Element first : SIMPLE) {
            for (Element second : SIMPLE) {
                if (signs(pairOf(first, second), types) == inside) {
                    return true;
                }
            }
        }
        return false;
    }

    private static int signs(Element e, List<Type> types) {
        int found = 0;
        for (int i = 0; i < 4; i++) {
            found |= isIn(e, 5 + i, types) ? 1 << i : 0;
        }
        return found;
    }

    private static boolean lies(boolean[] a, boolean[] b) {
        for (int e = 0; e < a.length; e++) {
            if (a[e] && !b[e]) {
                return false;
            }
        }
        return true;
    }

    private static boolean someIn(boolean[] a, boolean[] b) {
        for (int e = 0; e < a.length; e++) {
            if (a[e] && b[e]) {
                return true;
            }
        }
        return false;
    }

    private static void due(int run, String what, boolean got, boolean want) {
        if (got != want) {
            wrong++;
            if (wrong < 20) {
                System.out.println("run " + run + ": " + what + " answered " + got + ", due is " + want);
            }
        }
    }
}
