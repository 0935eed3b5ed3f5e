import java.util.ArrayList;
import java.util.List;

/**
 * "A call that is refused changes nothing.": for each reason to refuse, an object on which the
 * refused call was made is looked at from all sides beside a twin on which it was not. Each side is
 * looked at on new twins, as looking takes many calls and some of them change the object.
 */
public final class RefusedTest {

    private static final int MIN = Integer.MIN_VALUE;
    private static final int MAX = Integer.MAX_VALUE;

    private static int wrong = 0;

    private interface Build {
        MeaningTypes make();
    }

    private interface Call {
        int on(MeaningTypes x);
    }

    private interface Look {
        List<Integer> at(MeaningTypes x);
    }

    private static final Look[] LOOKS = {
        RefusedTest::lookAtMeanings, RefusedTest::lookAtAnswers, RefusedTest::lookAtArrows,
        RefusedTest::lookAtValues, RefusedTest::lookAtNextNumbers, RefusedTest::lookAtPairs,
        RefusedTest::lookAtInterfaces, RefusedTest::lookAtDepths};

    public static void main(String[] args) {
        buildsAreAsTold();
        onNewObject();
        onTypesThatAreNotThere();
        onDepth();
        onTwelveTypes();
        onValues();
        onTwentyValues();
        onQuestions();
        System.out.println(wrong == 0 ? "RefusedTest: all answers are as due" : "RefusedTest: " + wrong + " wrong");
        if (wrong != 0) {
            System.exit(1);
        }
    }

    // ---- Twins ----

    private static void refused(String what, Build build, Call call) {
        changesNothing(what, build, call, -1);
    }

    private static void changesNothing(String what, Build build, Call call, int want) {
        for (int look = 0; look < LOOKS.length; look++) {
            MeaningTypes touched = build.make();
            int got = call.on(touched);
            if (got != want) {
                wrong++;
                System.out.println(what + " answered " + got + ", due is " + want);
                return;
            }
            List<Integer> seen = LOOKS[look].at(touched);
            List<Integer> due = LOOKS[look].at(build.make());
            if (!seen.equals(due)) {
                wrong++;
                System.out.println(what + " changed something: look " + look + " sees " + seen + ", due is " + due);
            }
        }
    }

    private static int number(boolean answer) {
        return answer ? 1 : 0;
    }

    private static List<Integer> lookAtMeanings(MeaningTypes x) {
        List<Integer> seen = new ArrayList<>();
        seen.add(x.types());
        for (int a = 0; a < 13; a++) {
            seen.add(number(x.empty(a)));
            for (int b = 0; b < 13; b++) {
                seen.add(x.compare(a, b));
            }
        }
        return seen;
    }

    private static List<Integer> lookAtAnswers(MeaningTypes x) {
        List<Integer> seen = new ArrayList<>();
        for (int a = 0; a < 12; a++) {
            for (int b = 0; b < 12; b++) {
                seen.add(number(x.answers(a, b, (a * 5 + b * 7) % 12)));
            }
        }
        return seen;
    }

    /** How deep each type is, the 12th, too, shows by whether nothing answers by an arrow from or to it. */
    private static List<Integer> lookAtArrows(MeaningTypes x) {
        List<Integer> seen = new ArrayList<>();
        for (int b = 0; b < 12; b++) {
            for (int c = 0; c < 12; c++) {
                seen.add(number(x.answers(7, b, c)));
                seen.add(number(x.answers(9, b, c)));
            }
        }
        return seen;
    }

    private static List<Integer> lookAtValues(MeaningTypes x) {
        List<Integer> seen = new ArrayList<>();
        for (int v = 0; v < 21; v++) {
            seen.add(x.sorts(v));
            for (int a = 0; a < 12; a++) {
                seen.add(number(x.belongs(v, a)));
            }
        }
        return seen;
    }

    private static List<Integer> lookAtNextNumbers(MeaningTypes x) {
        List<Integer> seen = new ArrayList<>();
        for (int i = 0; i < 13; i++) {
            seen.add(x.any());
        }
        for (int i = 0; i < 21; i++) {
            seen.add(x.constant(0));
        }
        seen.add(x.cut(12));
        return seen;
    }

    /** How much is in a value shows by what it can be paired with. */
    private static List<Integer> lookAtPairs(MeaningTypes x) {
        List<Integer> seen = new ArrayList<>();
        for (int v = 0; v < 20; v++) {
            seen.add(x.pair(v, v));
        }
        for (int v = 0; v < 20; v++) {
            seen.add(x.pair(0, v));
        }
        return seen;
    }

    private static List<Integer> lookAtInterfaces(MeaningTypes x) {
        List<Integer> seen = new ArrayList<>();
        x.cut(12);
        for (int a = 0; a < 13; a++) {
            seen.add(x.function(a));
        }
        return seen;
    }

    /** How deep a type is shows by whether a product can be made of it, once there is room. */
    private static List<Integer> lookAtDepths(MeaningTypes x) {
        List<Integer> seen = new ArrayList<>();
        for (int n = 11; n > 0; n--) {
            int left = x.cut(n);
            int made = x.product(left - 1, 0);
            seen.add(made);
            seen.add(x.product(made, made));
            seen.add(x.cut(left));
        }
        return seen;
    }

    // ---- Objects to begin with ----

    /** Ten types of all kinds, 9: nothing, and seven values of all sorts: room for more of both. */
    private static MeaningTypes mixed() {
        MeaningTypes x = new MeaningTypes();
        x.constants(5);
        x.any();
        x.arrow(0, 1);
        x.product(2, 0);
        x.meet(2, 2);
        x.not(3);
        x.union(0, 3);
        x.arrow(3, 6);
        x.meet(7, 4);
        x.constants(0);
        x.constant(0);
        x.function(2);
        x.pair(0, 1);
        x.function(8);
        x.pair(2, 3);
        x.constant(5);
        x.pair(4, 0);
        return x;
    }

    /** Types 0 .. 5 with depths 0 .. 5, 6: a complement of depth 5, 7: nothing; three values. */
    private static MeaningTypes deep() {
        MeaningTypes x = new MeaningTypes();
        x.constants(1);
        for (int d = 1; d <= 5; d++) {
            if (d % 2 == 1) {
                x.arrow(d - 1, 0);
            } else {
                x.product(0, d - 1);
            }
        }
        x.not(5);
        x.constants(0);
        x.function(5);
        x.constant(0);
        x.pair(0, 1);
        return x;
    }

    private static MeaningTypes withTwelveTypes() {
        MeaningTypes x = mixed();
        x.constants(2);
        x.arrow(10, 0);
        return x;
    }

    private static MeaningTypes withTwentyValues() {
        MeaningTypes x = mixed();
        for (int v = 7; v < 20; v++) {
            if (v % 2 == 0) {
                x.function(4);
            } else {
                x.constant(v % 6);
            }
        }
        return x;
    }

    private static MeaningTypes fullOfBoth() {
        MeaningTypes x = withTwentyValues();
        x.constants(2);
        x.arrow(10, 0);
        return x;
    }

    private static MeaningTypes fullAndDeep() {
        MeaningTypes x = deep();
        x.any();
        x.arrow(8, 7);
        x.meet(9, 5);
        x.union(0, 10);
        return x;
    }

    private static void buildsAreAsTold() {
        due("types of mixed", mixed().types(), 10);
        due("nothing in mixed", number(mixed().empty(9)), 1);
        due("the next value of mixed", mixed().constant(0), 7);
        due("types of deep", deep().types(), 8);
        due("the next value of deep", deep().constant(0), 3);
        due("nothing in deep", number(deep().empty(7)), 1);
        due("types of withTwelveTypes", withTwelveTypes().types(), 12);
        due("the last value of withTwentyValues", number(withTwentyValues().sorts(19) >= 0), 1);
        due("types of fullOfBoth", fullOfBoth().types(), 12);
        due("the last value of fullOfBoth", number(fullOfBoth().sorts(19) >= 0), 1);
        due("types of fullAndDeep", fullAndDeep().types(), 12);
    }

    private static void due(String what, int got, int want) {
        if (got != want) {
            wrong++;
            System.out.println(what + ": " + got + ", due is " + want);
        }
    }

    // ---- The reasons to refuse ----

    private static void onNewObject() {
        refused("constants(64) on a new object", MeaningTypes::new, x -> x.constants(64));
        refused("product(0, 0) on a new object", MeaningTypes::new, x -> x.product(0, 0));
        refused("arrow(0, 0) on a new object", MeaningTypes::new, x -> x.arrow(0, 0));
        refused("union(0, 0) on a new object", MeaningTypes::new, x -> x.union(0, 0));
        refused("meet(0, 0) on a new object", MeaningTypes::new, x -> x.meet(0, 0));
        refused("not(0) on a new object", MeaningTypes::new, x -> x.not(0));
        refused("constant(6) on a new object", MeaningTypes::new, x -> x.constant(6));
        refused("pair(0, 0) on a new object", MeaningTypes::new, x -> x.pair(0, 0));
        refused("function(0) on a new object", MeaningTypes::new, x -> x.function(0));
    }

    private static void onTypesThatAreNotThere() {
        int[] masks = {MIN, -1, 64, 127, MAX};
        for (int mask : masks) {
            refused("constants(" + mask + ")", RefusedTest::mixed, x -> x.constants(mask));
        }
        int[] missing = {MIN, -1, 10, 12, 32, MAX};
        for (int t : missing) {
            refused("product(" + t + ", 0)", RefusedTest::mixed, x -> x.product(t, 0));
            refused("product(0, " + t + ")", RefusedTest::mixed, x -> x.product(0, t));
            refused("arrow(" + t + ", 0)", RefusedTest::mixed, x -> x.arrow(t, 0));
            refused("arrow(0, " + t + ")", RefusedTest::mixed, x -> x.arrow(0, t));
            refused("union(" + t + ", 0)", RefusedTest::mixed, x -> x.union(t, 0));
            refused("union(0, " + t + ")", RefusedTest::mixed, x -> x.union(0, t));
            refused("meet(" + t + ", 0)", RefusedTest::mixed, x -> x.meet(t, 0));
            refused("meet(0, " + t + ")", RefusedTest::mixed, x -> x.meet(0, t));
            refused("not(" + t + ")", RefusedTest::mixed, x -> x.not(t));
            refused("function(" + t + ")", RefusedTest::mixed, x -> x.function(t));
        }
    }

    private static void onDepth() {
        int[] deepest = {5, 6};
        for (int t : deepest) {
            refused("product(" + t + ", 0), too deep", RefusedTest::deep, x -> x.product(t, 0));
            refused("product(0, " + t + "), too deep", RefusedTest::deep, x -> x.product(0, t));
            refused("arrow(" + t + ", 0), too deep", RefusedTest::deep, x -> x.arrow(t, 0));
            refused("arrow(0, " + t + "), too deep", RefusedTest::deep, x -> x.arrow(0, t));
            changesNothing("answers(7, " + t + ", 0), too deep", RefusedTest::deep, x -> number(x.answers(7, t, 0)), 0);
            changesNothing("answers(7, 0, " + t + "), too deep", RefusedTest::deep, x -> number(x.answers(7, 0, t)), 0);
        }
    }

    private static void onTwelveTypes() {
        Build[] builds = {RefusedTest::withTwelveTypes, RefusedTest::fullOfBoth, RefusedTest::fullAndDeep};
        for (Build build : builds) {
            refused("constants(3) with 12", build, x -> x.constants(3));
            refused("product(0, 1) with 12", build, x -> x.product(0, 1));
            refused("arrow(0, 1) with 12", build, x -> x.arrow(0, 1));
            refused("union(0, 2) with 12", build, x -> x.union(0, 2));
            refused("meet(0, 1) with 12", build, x -> x.meet(0, 1));
            refused("meet(5, 5), with 12", build, x -> x.meet(5, 5));
            refused("not(0) with 12", build, x -> x.not(0));
            refused("any() with 12", build, x -> x.any());
        }
    }

    private static void onValues() {
        int[] constants = {MIN, -1, 6, 32, MAX};
        for (int c : constants) {
            refused("constant(" + c + ")", RefusedTest::mixed, x -> x.constant(c));
        }
        int[] missing = {MIN, -1, 7, 20, 32, MAX};
        for (int v : missing) {
            refused("pair(" + v + ", 0)", RefusedTest::mixed, x -> x.pair(v, 0));
            refused("pair(0, " + v + ")", RefusedTest::mixed, x -> x.pair(0, v));
        }
        refused("pair(6, 0), five in it", RefusedTest::mixed, x -> x.pair(6, 0));
        refused("pair(0, 6), five in it", RefusedTest::mixed, x -> x.pair(0, 6));
        refused("pair(4, 2), five in it", RefusedTest::mixed, x -> x.pair(4, 2));
        refused("pair(6, 6), eight in it", RefusedTest::mixed, x -> x.pair(6, 6));
        int[] others = {0, 1, 3, 5, 6, 9};
        for (int t : others) {
            refused("function(" + t + "), no interface", RefusedTest::mixed, x -> x.function(t));
        }
    }

    private static void onTwentyValues() {
        Build[] builds = {RefusedTest::withTwentyValues, RefusedTest::fullOfBoth};
        for (Build build : builds) {
            refused("constant(1) with 20", build, x -> x.constant(1));
            refused("pair(0, 0) with 20", build, x -> x.pair(0, 0));
            refused("function(2) with 20", build, x -> x.function(2));
        }
    }

    /** Questions are not refused, but they change nothing either, with an answer or without one. */
    private static void onQuestions() {
        Build[] builds = {RefusedTest::mixed, RefusedTest::fullOfBoth};
        for (Build build : builds) {
            changesNothing("types()", build, x -> x.types() - x.types(), 0);
            changesNothing("empty(3)", build, x -> number(x.empty(3)), 0);
            changesNothing("empty(12)", build, x -> number(x.empty(12)), 0);
            changesNothing("within(0, 1)", build, x -> number(x.within(0, 1)), 1);
            changesNothing("within(0, 12)", build, x -> number(x.within(0, 12)), 0);
            changesNothing("compare(0, 3)", build, x -> x.compare(0, 3), 4);
            changesNothing("compare(0, 12)", build, x -> x.compare(0, 12), -1);
            changesNothing("answers(2, 0, 1)", build, x -> number(x.answers(2, 0, 1)), 1);
            changesNothing("answers(1, 0, 1)", build, x -> number(x.answers(1, 0, 1)), 0);
            changesNothing("answers(2, 0, 12)", build, x -> number(x.answers(2, 0, 12)), 0);
            changesNothing("belongs(0, 0)", build, x -> number(x.belongs(0, 0)), 1);
            changesNothing("belongs(0, 12)", build, x -> number(x.belongs(0, 12)), 0);
            changesNothing("belongs(20, 0)", build, x -> number(x.belongs(20, 0)), 0);
            changesNothing("match(2, 0, 3, 1)", build, x -> x.match(2, 0, 3, 1), 3);
            changesNothing("match(2, 0, 12, 1)", build, x -> x.match(2, 0, 12, 1), -1);
            changesNothing("sorts(0)", build, x -> x.sorts(0) - x.sorts(0), 0);
            changesNothing("sorts(20)", build, x -> x.sorts(20), -1);
        }
    }
}
