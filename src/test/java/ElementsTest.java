import java.util.ArrayList;
import java.util.List;
import java.util.Random;

/**
 * The meanings by the definition itself: elements are built and looked up in types one by one.
 *
 * <p>With at most two arrows, and parts of products and arrows that are of depth 0, the elements
 * below are enough to tell any two types apart: a function is outside of an arrow by one step, and
 * a step matters only by where its ends lie in types of depth 0.
 */
public final class ElementsTest {

    private static final int RUNS = 400;
    private static final int FAILURE = -1;

    private static final List<Element> SIMPLE = new ArrayList<>();
    private static final List<Element> ALL = new ArrayList<>();

    private static int wrong = 0;

    /** A constant, a pair, or a function with steps from starts[i] to ends[i]; a null end is failure. */
    private static final class Element {
        int constant = FAILURE;
        Element first;
        Element second;
        List<Element> starts;
        List<Element> ends;
    }

    /** How a type was made. */
    private static final class Type {
        final String kind;
        final int a;
        final int b;

        Type(String kind, int a, int b) {
            this.kind = kind;
            this.a = a;
            this.b = b;
        }
    }

    public static void main(String[] args) {
        makeElements();
        Random random = new Random(20261115L);
        for (int run = 0; run < RUNS; run++) {
            tryTypes(random, run);
        }
        System.out.println(wrong == 0 ? "ElementsTest: all answers are as due" : "ElementsTest: " + wrong + " wrong");
        if (wrong != 0) {
            System.exit(1);
        }
    }

    private static void makeElements() {
        for (int c = 0; c < 6; c++) {
            Element e = new Element();
            e.constant = c;
            SIMPLE.add(e);
        }
        SIMPLE.add(pairOf(SIMPLE.get(0), SIMPLE.get(0)));
        SIMPLE.add(functionOf());
        for (int c = 0; c < 6; c++) {
            ALL.add(SIMPLE.get(c));
        }
        for (Element e : SIMPLE) {
            for (Element f : SIMPLE) {
                ALL.add(pairOf(e, f));
            }
        }
        addFunctions();
    }

    private static void addFunctions() {
        List<Element> steps = new ArrayList<>();
        for (Element from : SIMPLE) {
            for (Element to : SIMPLE) {
                steps.add(functionOf(from, to));
            }
            steps.add(functionOf(from, null));
        }
        ALL.add(functionOf());
        for (int i = 0; i < steps.size(); i++) {
            for (int j = 0; j <= i; j++) {
                Element s = steps.get(i);
                Element t = steps.get(j);
                ALL.add(functionOf(s.starts.get(0), s.ends.get(0), t.starts.get(0), t.ends.get(0)));
            }
        }
    }

    private static Element pairOf(Element first, Element second) {
        Element e = new Element();
        e.first = first;
        e.second = second;
        return e;
    }

    private static Element functionOf(Element... startsAndEnds) {
        Element e = new Element();
        e.starts = new ArrayList<>();
        e.ends = new ArrayList<>();
        for (int i = 0; i < startsAndEnds.length; i += 2) {
            e.starts.add(startsAndEnds[i]);
            e.ends.add(startsAndEnds[i + 1]);
        }
        return e;
    }

    private static boolean isIn(Element e, int t, List<Type> types) {
        Type type = types.get(t);
        switch (type.kind) {
            case "constants":
                return e.constant >= 0 && (type.a >> e.constant & 1) == 1;
            case "any":
                return true;
            case "union":
                return isIn(e, type.a, types) || isIn(e, type.b, types);
            case "meet":
                return isIn(e, type.a, types) && isIn(e, type.b, types);
            case "not":
                return !isIn(e, type.a, types);
            case "product":
                return e.first != null && isIn(e.first, type.a, types) && isIn(e.second, type.b, types);
            default:
                return e.starts != null && allStepsKeep(e, type, types);
        }
    }

    private static boolean allStepsKeep(Element e, Type arrow, List<Type> types) {
        for (int i = 0; i < e.starts.size(); i++) {
            Element end = e.ends.get(i);
            if (isIn(e.starts.get(i), arrow.a, types) && (end == null || !isIn(end, arrow.b, types))) {
                return false;
            }
        }
        return true;
    }

    private static void tryTypes(Random random, int run) {
        MeaningTypes x = new MeaningTypes();
        List<Type> types = new ArrayList<>();
        int flat = 2 + random.nextInt(3);
        for (int t = 0; t < flat; t++) {
            makeFlat(random, x, types);
        }
        int arrows = random.nextInt(3);
        int products = random.nextInt(4);
        for (int i = 0; i < arrows + products; i++) {
            String kind = i < arrows ? "arrow" : "product";
            make(x, types, new Type(kind, random.nextInt(flat), random.nextInt(flat)));
        }
        while (types.size() < 12) {
            makeBoolean(random, x, types);
        }
        compareAll(x, types, run);
    }

    private static void makeFlat(Random random, MeaningTypes x, List<Type> types) {
        if (types.size() < 2) {
            make(x, types, new Type("constants", random.nextInt(64), 0));
            return;
        }
        if (random.nextInt(4) == 0) {
            make(x, types, new Type("any", 0, 0));
        } else {
            makeBoolean(random, x, types);
        }
    }

    private static void makeBoolean(Random random, MeaningTypes x, List<Type> types) {
        String[] kinds = {"union", "meet", "not"};
        make(x, types, new Type(kinds[random.nextInt(3)], random.nextInt(types.size()), random.nextInt(types.size())));
    }

    private static void make(MeaningTypes x, List<Type> types, Type type) {
        types.add(type);
        switch (type.kind) {
            case "constants": x.constants(type.a); break;
            case "any": x.any(); break;
            case "union": x.union(type.a, type.b); break;
            case "meet": x.meet(type.a, type.b); break;
            case "not": x.not(type.a); break;
            case "product": x.product(type.a, type.b); break;
            default: x.arrow(type.a, type.b); break;
        }
    }

    private static void compareAll(MeaningTypes x, List<Type> types, int run) {
        boolean[][] in = new boolean[types.size()][ALL.size()];
        for (int t = 0; t < types.size(); t++) {
            for (int e = 0; e < ALL.size(); e++) {
                in[t][e] = isIn(ALL.get(e), t, types);
            }
        }
        for (int a = 0; a < types.size(); a++) {
            due(run, "empty " + a, x.empty(a), !someIn(in[a], in[a]));
            for (int b = 0; b < types.size(); b++) {
                boolean forth = lies(in[a], in[b]);
                boolean back = lies(in[b], in[a]);
                due(run, "within " + a + " " + b, x.within(a, b), forth);
                int want = forth && back ? 3 : forth ? 1 : back ? 2 : someIn(in[a], in[b]) ? 0 : 4;
                due(run, "compare " + a + " " + b + " is " + want, x.compare(a, b) == want, true);
            }
        }
    }

    private static boolean lies(boolean[] a, boolean[] b) {
        for (int e = 0; e < a.length; e++) {
            if (a[e] && !b[e]) {
                return false;
            }
        }
        return true;
    }

    private static boolean someIn(boolean[] a, boolean[] b) {
        for (int e = 0; e < a.length; e++) {
            if (a[e] && b[e]) {
                return true;
            }
        }
        return false;
    }

    private static void due(int run, String what, boolean got, boolean want) {
        if (got != want) {
            wrong++;
            if (wrong < 20) {
                System.out.println("run " + run + ": " + what + " answered " + got + ", due is " + want);
            }
        }
    }
}
