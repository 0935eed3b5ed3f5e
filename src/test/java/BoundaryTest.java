/**
 * The boundary cases, sentence by sentence: each sentence of the document that names one (too
 * small, too large, empty, full, not there, too deep) has a test of its own here, under its words.
 * No object is called more than 512 times. What a refused call leaves as it was, RefusedTest tells.
 */
public final class BoundaryTest {

    private static final int MIN = Integer.MIN_VALUE;
    private static final int MAX = Integer.MAX_VALUE;

    /** Numbers that no type and no value has; some would fall on good ones if cut to a few bits. */
    private static final int[] NEVER_THERE = {
        MIN, MIN + 1, -65536, -256, -64, -33, -32, -31, -20, -13, -12, -2, -1,
        20, 21, 31, 32, 33, 63, 64, 65, 255, 256, 257, 65536, 65537, MAX - 31, MAX - 1, MAX};

    private static int wrong = 0;
    private static String words = "";

    private interface Call {
        int on(MeaningTypes x);
    }

    private interface CallWith {
        int on(MeaningTypes x, int number);
    }

    public static void main(String[] args) {
        sentencesOnTheWhole();
        sentencesOnElements();
        sentencesOnTypes();
        sentencesOnDepth();
        sentencesOnValues();
        sentencesOnMakingTypes();
        sentencesOnPartsThatAreNotThere();
        sentencesOnAskingForTypes();
        sentencesOnAnswers();
        sentencesOnMakingValues();
        sentencesOnAskingForValues();
        sentencesOnCut();
        System.out.println(wrong == 0 ? "BoundaryTest: all answers are as due" : "BoundaryTest: " + wrong + " wrong");
        if (wrong != 0) {
            System.exit(1);
        }
    }

    /** Runs the test of one sentence; an exception that comes out of a call is a wrong answer, too. */
    private static void sentence(String itsWords, Runnable test) {
        words = itsWords;
        try {
            test.run();
        } catch (RuntimeException thrown) {
            wrong++;
            System.out.println("[" + words + "] threw " + thrown);
        }
    }

    private static void due(String call, int got, int want) {
        if (got != want) {
            wrong++;
            System.out.println("[" + words + "] " + call + " answered " + got + ", due is " + want);
        }
    }

    private static void due(String call, boolean got, boolean want) {
        due(call, number(got), number(want));
    }

    private static int number(boolean answer) {
        return answer ? 1 : 0;
    }

    // ---- Objects to begin with ----

    /** Types 0: nothing, 1: the constant 0, 2: the constant 1, 3: the constants 0 and 1, 4: any. */
    private static MeaningTypes withFlatTypes() {
        MeaningTypes x = new MeaningTypes();
        due("constants(0)", x.constants(0), 0);
        due("constants(1)", x.constants(1), 1);
        due("constants(2)", x.constants(2), 2);
        due("constants(3)", x.constants(3), 3);
        due("any()", x.any(), 4);
        return x;
    }

    /** Eleven types, of which 1 is an arrow: there is room for one more. */
    private static MeaningTypes withElevenTypes() {
        MeaningTypes x = new MeaningTypes();
        x.constants(1);
        x.arrow(0, 0);
        for (int t = 2; t < 11; t++) {
            due("any()", x.any(), t);
        }
        return x;
    }

    private static MeaningTypes withTwelveTypes() {
        MeaningTypes x = withElevenTypes();
        due("any() as the 12th", x.any(), 11);
        return x;
    }

    /** Type 0 is the constant 0, 1 an arrow; values 0 .. 18: there is room for one more. */
    private static MeaningTypes withNineteenValues() {
        MeaningTypes x = new MeaningTypes();
        x.constants(1);
        x.arrow(0, 0);
        for (int v = 0; v < 19; v++) {
            due("constant", x.constant(v % 6), v);
        }
        return x;
    }

    private static MeaningTypes withTwentyValues() {
        MeaningTypes x = withNineteenValues();
        due("constant as the 20th", x.constant(1), 19);
        return x;
    }

    /** Type d has the depth d, by arrows and products in turn; type 0 is the constant 0. */
    private static MeaningTypes withDepths() {
        MeaningTypes x = new MeaningTypes();
        x.constants(1);
        for (int d = 1; d <= 5; d++) {
            due("a type of depth " + d, d % 2 == 1 ? x.arrow(0, d - 1) : x.product(d - 1, 0), d);
        }
        return x;
    }

    /** Tells a type's depth by how many products can stand over it; takes values and these away again. */
    private static void dueDepth(MeaningTypes x, int t, int depth) {
        int from = x.types();
        int top = t;
        for (int d = depth; d < 5; d++) {
            top = x.product(top, 0);
            due("a product over depth " + d, top, from + d - depth);
        }
        due("one product more", x.product(top, 0), -1);
        x.cut(from);
    }

    // ---- What it is ----

    private static void sentencesOnTheWhole() {
        sentence("An object is used for at most 512 calls", BoundaryTest::allOf512CallsAnswer);
        sentence("An object is used for at most 512 calls: dear ones", BoundaryTest::allOf512DearCallsAnswer);
        sentence("An object is used for at most 512 calls: refused ones", BoundaryTest::allOf512RefusedCallsAnswer);
        sentence("Promise 1: No types and values.", BoundaryTest::aNewObjectHasNothing);
    }

    private static void allOf512CallsAnswer() {
        MeaningTypes x = new MeaningTypes();
        for (int round = 0; round < 32; round++) {
            due("constants(1)", x.constants(1), 0);
            due("constants(2)", x.constants(2), 1);
            due("union(0, 1)", x.union(0, 1), 2);
            due("arrow(0, 0)", x.arrow(0, 0), 3);
            due("arrow(2, 2)", x.arrow(2, 2), 4);
            due("product(3, 2)", x.product(3, 2), 5);
            due("function(3)", x.function(3), 0);
            due("constant(1)", x.constant(1), 1);
            due("pair(0, 1)", x.pair(0, 1), 2);
            due("belongs(2, 5)", x.belongs(2, 5), true);
            due("match(1, 0, 1, 2)", x.match(1, 0, 1, 2), 2);
            due("sorts(1)", x.sorts(1), 2);
            due("compare(3, 4)", x.compare(3, 4), 0);
            due("answers(4, 0, 2)", x.answers(4, 0, 2), true);
            due("types()", x.types(), 6);
            due("cut(0)", x.cut(0), 0);
        }
    }

    /** Arrows that are free of one another make the most work; answers adds another one each time. */
    private static void allOf512DearCallsAnswer() {
        MeaningTypes x = new MeaningTypes();
        due("constants(1)", x.constants(1), 0);
        for (int t = 1; t < 5; t++) {
            due("an arrow that is one deeper", x.arrow(t - 1, 0), t);
        }
        for (int t = 5; t < 12; t++) {
            due("another arrow", x.arrow(t * 7 % 5, t * 3 % 5), t);
        }
        for (int call = 12; call < 511; call++) {
            due("a constant answers nothing", x.answers(0, call % 5, call / 5 % 5), false);
        }
        due("the 512th call", x.answers(1, 0, 0), true);
    }

    private static void allOf512RefusedCallsAnswer() {
        MeaningTypes x = new MeaningTypes();
        for (int round = 0; round < 63; round++) {
            due("constants(64)", x.constants(64), -1);
            due("not(0)", x.not(0), -1);
            due("constant(6)", x.constant(6), -1);
            due("pair(0, 0)", x.pair(0, 0), -1);
            due("function(0)", x.function(0), -1);
            due("arrow(0, 0)", x.arrow(0, 0), -1);
            due("product(0, 0)", x.product(0, 0), -1);
            due("types()", x.types(), 0);
        }
        due("any()", x.any(), 0);
        due("constant(0)", x.constant(0), 0);
        due("sorts(0)", x.sorts(0), 1);
    }

    private static void aNewObjectHasNothing() {
        due("types()", new MeaningTypes().types(), 0);
        due("empty(0)", new MeaningTypes().empty(0), false);
        due("within(0, 0)", new MeaningTypes().within(0, 0), false);
        due("compare(0, 0)", new MeaningTypes().compare(0, 0), -1);
        due("answers(0, 0, 0)", new MeaningTypes().answers(0, 0, 0), false);
        due("sorts(0)", new MeaningTypes().sorts(0), -1);
        due("cut(12)", new MeaningTypes().cut(12), 0);
        MeaningTypes x = withTwelveTypes();
        x.constant(0);
        due("types() of another object", new MeaningTypes().types(), 0);
        due("sorts(0) of another object", new MeaningTypes().sorts(0), -1);
        due("types() of the first one", x.types(), 12);
    }

    // ---- Terms: elements ----

    private static void sentencesOnElements() {
        sentence("ELEMENTS are the constants 0 .. 5", BoundaryTest::theConstantsAreSix);
        sentence("a finite set (maybe with nothing in it) of STEPS", BoundaryTest::aFunctionMayHaveNoStep);
        sentence("FUNCTIONS, each a finite set of STEPS", BoundaryTest::aFunctionMayHaveManySteps);
        sentence("from an element to an element or to FAILURE", BoundaryTest::aStepMayFail);
        sentence("(also several from one element)", BoundaryTest::oneElementMayHaveSeveralSteps);
    }

    private static void theConstantsAreSix() {
        MeaningTypes x = new MeaningTypes();
        x.any();
        x.constants(63);
        x.product(0, 0);
        x.constants(0);
        x.arrow(3, 0);
        x.union(1, 2);
        x.union(5, 4);
        due("constants, pairs and functions are all", x.compare(6, 0), 3);
        x.constants(62);
        x.constants(31);
        due("without the constant 0", x.compare(7, 1), 1);
        due("without the constant 5", x.compare(8, 1), 1);
        x.union(7, 8);
        due("both together", x.compare(9, 1), 3);
    }

    private static void aFunctionMayHaveNoStep() {
        MeaningTypes x = withFlatTypes();
        x.arrow(4, 0);
        due("all steps go to nothing", x.empty(5), false);
        x.arrow(1, 2);
        due("it lies in an arrow", x.compare(5, 6), 1);
        x.arrow(4, 4);
        due("it lies in another arrow", x.compare(5, 7), 1);
        x.not(6);
        due("it is in no complement of an arrow", x.compare(5, 8), 4);
    }

    private static void aFunctionMayHaveManySteps() {
        MeaningTypes x = new MeaningTypes();
        x.constants(0);
        x.arrow(0, 0);
        x.constants(1);
        x.constants(2);
        x.product(2, 3);
        x.arrow(1, 0);
        x.arrow(2, 0);
        x.arrow(3, 0);
        x.arrow(4, 0);
        x.union(5, 6);
        due("steps from a function and a constant", x.compare(9, 1), 1);
        x.union(9, 7);
        due("and from another constant", x.compare(10, 1), 1);
        x.union(10, 8);
        due("and from a pair", x.compare(11, 1), 1);
        MeaningTypes y = withFlatTypes();
        y.arrow(1, 4);
        y.arrow(3, 4);
        y.arrow(2, 4);
        y.union(5, 7);
        y.arrow(0, 0);
        due("two steps that share an arrow which they break", y.compare(8, 9), 1);
        y.meet(5, 7);
        due("which is just their common one", y.compare(10, 6), 3);
    }

    private static void aStepMayFail() {
        MeaningTypes x = withFlatTypes();
        x.arrow(0, 0);
        x.arrow(4, 4);
        due("from any to any is not every function", x.compare(6, 5), 1);
        x.arrow(1, 4);
        due("from a constant to any is not every function", x.compare(7, 5), 1);
        due("to any from fewer", x.compare(6, 7), 1);
        x.not(7);
        x.meet(8, 5);
        due("a function that fails", x.empty(9), false);
    }

    private static void oneElementMayHaveSeveralSteps() {
        MeaningTypes x = withFlatTypes();
        x.arrow(1, 1);
        x.arrow(1, 2);
        x.union(5, 6);
        x.arrow(1, 3);
        due("steps from 0 to 0 and from 0 to 1", x.compare(7, 8), 1);
        x.meet(5, 6);
        x.arrow(1, 0);
        due("none to both at once", x.compare(9, 10), 3);
    }

    // ---- Terms: types ----

    private static void sentencesOnTypes() {
        sentence("TYPES are numbered from 0 in the order in which they were made", BoundaryTest::typesAreNumbered);
        sentence("TYPES, at most 12", BoundaryTest::twelveTypesAndNoMore);
        sentence("CONSTANTS: the constants c for which bit c of the mask is 1", BoundaryTest::eachBitIsAConstant);
        sentence("PRODUCT: all pairs of an element of a and one of b", BoundaryTest::productsOfNothingAndAny);
        sentence("ARROW: each step from an element of a goes to an element of b", BoundaryTest::arrowsOfNothingAndAny);
        sentence("UNION of a and b", BoundaryTest::unionsWithNothingAndAny);
        sentence("INTERSECTION of a and b", BoundaryTest::meetsWithNothingAndAny);
        sentence("COMPLEMENT: all elements that are not in a", BoundaryTest::complementsOfNothingAndAny);
        sentence("ANY: all elements", BoundaryTest::anyHasAllKinds);
    }

    private static void typesAreNumbered() {
        MeaningTypes x = new MeaningTypes();
        due("constants(0)", x.constants(0), 0);
        due("any()", x.any(), 1);
        due("product(1, 1)", x.product(1, 1), 2);
        due("arrow(2, 2)", x.arrow(2, 2), 3);
        due("union(3, 3)", x.union(3, 3), 4);
        due("meet(4, 4)", x.meet(4, 4), 5);
        due("not(5)", x.not(5), 6);
        due("constants(0) again", x.constants(0), 7);
        due("any() again", x.any(), 8);
        due("not(0)", x.not(0), 9);
        due("constants(63)", x.constants(63), 10);
        due("not(10), the last", x.not(10), 11);
        due("the last of them means what it should", x.compare(10, 11), 4);
    }

    private static void twelveTypesAndNoMore() {
        Call[] makers = {
            x -> x.constants(1), x -> x.product(0, 0), x -> x.arrow(0, 0), x -> x.union(0, 1),
            x -> x.meet(0, 1), x -> x.not(0), x -> x.any()};
        for (int m = 0; m < makers.length; m++) {
            MeaningTypes x = withElevenTypes();
            due("the 12th by maker " + m, makers[m].on(x), 11);
            due("types()", x.types(), 12);
            for (int n = 0; n < makers.length; n++) {
                due("a 13th by maker " + n, makers[n].on(x), -1);
            }
            due("types()", x.types(), 12);
        }
    }

    private static void eachBitIsAConstant() {
        for (int c = 0; c < 6; c++) {
            MeaningTypes x = new MeaningTypes();
            x.constants(1 << c);
            x.constants(63 - (1 << c));
            x.constants(0);
            x.constants(63);
            for (int d = 0; d < 6; d++) {
                x.constant(d);
                due("the bit alone", x.belongs(d, 0), c == d);
                due("all but the bit", x.belongs(d, 1), c != d);
                due("no bit", x.belongs(d, 2), false);
                due("all bits", x.belongs(d, 3), true);
            }
            due("apart", x.compare(0, 1), 4);
            due("no bit is nothing", x.empty(2), true);
            due("one bit is something", x.empty(0), false);
        }
    }

    private static void productsOfNothingAndAny() {
        MeaningTypes x = withFlatTypes();
        x.product(0, 4);
        x.product(4, 0);
        x.product(0, 0);
        due("nothing with any", x.empty(5), true);
        due("any with nothing", x.empty(6), true);
        due("nothing with nothing", x.empty(7), true);
        x.product(4, 4);
        x.product(1, 4);
        due("a smaller first part", x.compare(9, 8), 1);
        x.product(4, 1);
        due("a smaller second part", x.compare(10, 8), 1);
        due("the one and the other", x.compare(9, 10), 0);
    }

    private static void arrowsOfNothingAndAny() {
        MeaningTypes x = withFlatTypes();
        x.arrow(0, 0);
        x.arrow(0, 4);
        due("from nothing, to whatever", x.compare(5, 6), 3);
        x.arrow(1, 1);
        due("each arrow lies in that", x.compare(7, 5), 1);
        x.arrow(4, 0);
        due("from any to nothing lies in each", x.compare(8, 7), 1);
        due("and is not empty", x.empty(8), false);
        x.product(4, 4);
        x.union(3, 9);
        due("no constant and no pair is in it", x.compare(10, 5), 4);
    }

    private static void unionsWithNothingAndAny() {
        MeaningTypes x = withFlatTypes();
        due("with nothing", x.compare(x.union(0, 3), 3), 3);
        due("nothing, round", x.compare(x.union(3, 0), 3), 3);
        due("with any", x.compare(x.union(3, 4), 4), 3);
        due("any, round", x.compare(x.union(4, 3), 4), 3);
        due("with itself", x.compare(x.union(3, 3), 3), 3);
        due("of nothing", x.empty(x.union(0, 0)), true);
        due("of two constants", x.compare(x.union(1, 2), 3), 3);
    }

    private static void meetsWithNothingAndAny() {
        MeaningTypes x = withFlatTypes();
        due("with nothing", x.empty(x.meet(0, 3)), true);
        due("nothing, round", x.empty(x.meet(3, 0)), true);
        due("with any", x.compare(x.meet(3, 4), 3), 3);
        due("any, round", x.compare(x.meet(4, 3), 3), 3);
        due("with itself", x.compare(x.meet(3, 3), 3), 3);
        due("of any", x.compare(x.meet(4, 4), 4), 3);
        due("of two constants", x.empty(x.meet(1, 2)), true);
    }

    private static void complementsOfNothingAndAny() {
        MeaningTypes x = withFlatTypes();
        due("of nothing", x.compare(x.not(0), 4), 3);
        due("of any", x.empty(x.not(4)), true);
        due("twice", x.compare(x.not(x.not(3)), 3), 3);
        int rest = x.not(3);
        due("apart from it", x.compare(rest, 3), 4);
        due("together all", x.compare(x.union(rest, 3), 4), 3);
    }

    private static void anyHasAllKinds() {
        MeaningTypes x = withFlatTypes();
        x.constants(63);
        x.product(4, 4);
        x.arrow(0, 0);
        for (int t = 0; t < 8; t++) {
            due("type " + t + " lies in any", x.within(t, 4), true);
            due("any lies in type " + t, x.within(4, t), t == 4);
        }
        x.product(7, 6);
        x.arrow(8, 8);
        due("pairs of pairs and functions", x.compare(8, 4), 1);
        due("functions of them", x.compare(9, 4), 1);
    }

    // ---- Terms: depth ----

    private static void sentencesOnDepth() {
        sentence("a DEPTH, at most 5", BoundaryTest::depthFiveAndNoMore);
        sentence("DEPTH: that of constants and ANY is 0", BoundaryTest::flatTypesHaveDepthZero);
        sentence("DEPTH: of a product or arrow one more than the greater one of its parts",
            BoundaryTest::theDeeperPartCounts);
        sentence("DEPTH: of the others that of the greater one of theirs", BoundaryTest::othersAddNoDepth);
    }

    private static void depthFiveAndNoMore() {
        for (int ways = 0; ways < 16; ways++) {
            MeaningTypes x = new MeaningTypes();
            x.any();
            for (int d = 1; d <= 6; d++) {
                boolean asFirst = (ways >> (d % 3) & 1) == 0;
                int a = asFirst ? d - 1 : 0;
                int b = asFirst ? 0 : d - 1;
                int made = (ways >> 3) == d % 2 ? x.product(a, b) : x.arrow(a, b);
                due("depth " + d + " in way " + ways, made, d < 6 ? d : -1);
            }
            due("types()", x.types(), 6);
        }
    }

    private static void flatTypesHaveDepthZero() {
        MeaningTypes x = new MeaningTypes();
        x.constants(0);
        x.constants(63);
        x.any();
        dueDepth(x, 0, 0);
        dueDepth(x, 1, 0);
        dueDepth(x, 2, 0);
    }

    private static void theDeeperPartCounts() {
        for (int p = 0; p <= 5; p++) {
            for (int q = 0; q <= 5; q++) {
                int greater = Math.max(p, q);
                MeaningTypes x = withDepths();
                due("product of depths " + p + " and " + q, x.product(p, q), greater < 5 ? 6 : -1);
                if (greater < 5) {
                    dueDepth(x, 6, greater + 1);
                }
                MeaningTypes y = withDepths();
                due("arrow of depths " + p + " and " + q, y.arrow(p, q), greater < 5 ? 6 : -1);
                if (greater < 5) {
                    dueDepth(y, 6, greater + 1);
                }
            }
        }
    }

    private static void othersAddNoDepth() {
        for (int p = 0; p <= 5; p++) {
            for (int q = 0; q <= 5; q++) {
                MeaningTypes x = withDepths();
                due("union of depths " + p + " and " + q, x.union(p, q), 6);
                dueDepth(x, 6, Math.max(p, q));
                MeaningTypes y = withDepths();
                due("meet of depths " + p + " and " + q, y.meet(p, q), 6);
                dueDepth(y, 6, Math.max(p, q));
            }
            MeaningTypes z = withDepths();
            due("not of depth " + p, z.not(p), 6);
            dueDepth(z, 6, p);
        }
    }

    // ---- Terms: values ----

    private static void sentencesOnValues() {
        sentence("VALUES are numbered from 0", BoundaryTest::valuesAreNumbered);
        sentence("VALUES, at most 20", BoundaryTest::twentyValuesAndNoMore);
        sentence("SORT: a constant's is the constant alone", BoundaryTest::aConstantsSort);
        sentence("SORT: a pair's the product of those of its parts", BoundaryTest::aPairsSort);
        sentence("SORT: a function's an INTERFACE", BoundaryTest::aFunctionsSort);
        sentence("INTERFACE: made as an arrow, or as the intersection of two interfaces", BoundaryTest::interfaces);
        sentence("A value BELONGS to a type if its sort lies in that.", BoundaryTest::theWholeSortLiesInIt);
    }

    private static void valuesAreNumbered() {
        MeaningTypes x = new MeaningTypes();
        due("constant(0) without a type", x.constant(0), 0);
        due("pair(0, 0)", x.pair(0, 0), 1);
        x.any();
        x.arrow(0, 0);
        due("function(1)", x.function(1), 2);
        due("function(1) again", x.function(1), 3);
        due("constant(0) again", x.constant(0), 4);
        due("pair(4, 3)", x.pair(4, 3), 5);
    }

    private static void twentyValuesAndNoMore() {
        Call[] makers = {x -> x.constant(5), x -> x.pair(0, 1), x -> x.function(1)};
        for (int m = 0; m < makers.length; m++) {
            MeaningTypes x = withNineteenValues();
            due("the 20th by maker " + m, makers[m].on(x), 19);
            due("sorts(19) is there", x.sorts(19) >= 0, true);
            for (int n = 0; n < makers.length; n++) {
                due("a 21st by maker " + n, makers[n].on(x), -1);
            }
            due("sorts(20)", x.sorts(20), -1);
        }
    }

    private static void aConstantsSort() {
        MeaningTypes x = withFlatTypes();
        x.constant(0);
        x.constant(5);
        due("the constant alone has it", x.belongs(0, 1), true);
        due("another constant", x.belongs(0, 2), false);
        due("nothing", x.belongs(0, 0), false);
        due("any", x.belongs(1, 4), true);
        due("the constant 5 in lower ones", x.belongs(1, 3), false);
    }

    private static void aPairsSort() {
        MeaningTypes x = withFlatTypes();
        x.constant(0);
        x.constant(1);
        x.pair(0, 1);
        x.product(1, 2);
        x.product(2, 1);
        x.product(4, 4);
        due("the product of its parts", x.belongs(2, 5), true);
        due("turned round", x.belongs(2, 6), false);
        due("all pairs", x.belongs(2, 7), true);
        due("its first part alone", x.belongs(2, 1), false);
        x.pair(2, 2);
        x.product(5, 5);
        x.product(7, 6);
        due("a pair of pairs", x.belongs(3, 8), true);
        due("a pair of pairs, one turned round", x.belongs(3, 9), false);
    }

    private static void aFunctionsSort() {
        MeaningTypes x = withFlatTypes();
        x.arrow(1, 2);
        x.arrow(1, 3);
        x.arrow(1, 0);
        x.function(5);
        due("its interface", x.belongs(0, 5), true);
        due("a greater one", x.belongs(0, 6), true);
        due("a smaller one", x.belongs(0, 7), false);
        x.function(7);
        due("to nothing", x.belongs(1, 5), true);
        due("no constants", x.belongs(1, 3), false);
    }

    private static void interfaces() {
        MeaningTypes x = withFlatTypes();
        x.arrow(1, 1);
        x.arrow(0, 0);
        x.meet(5, 6);
        x.meet(7, 7);
        due("an arrow", x.function(5), 0);
        due("an arrow from nothing", x.function(6), 1);
        due("an intersection of two", x.function(7), 2);
        due("an intersection of intersections", x.function(8), 3);
        x.meet(8, 4);
        x.meet(4, 5);
        due("an intersection with any, though it means the same", x.function(9), -1);
        due("any first", x.function(10), -1);
        x.cut(9);
        x.meet(8, 5);
        due("an intersection of an intersection and an arrow", x.function(9), 0);
    }

    private static void theWholeSortLiesInIt() {
        MeaningTypes x = withFlatTypes();
        x.arrow(1, 1);
        x.arrow(2, 2);
        x.function(5);
        x.not(6);
        x.union(6, 7);
        due("a part of the sort lies in it", x.belongs(0, 6), false);
        due("the other part lies in it", x.belongs(0, 7), false);
        due("both parts together", x.belongs(0, 8), true);
        x.constant(0);
        x.pair(0, 1);
        x.product(6, 4);
        x.product(7, 4);
        x.union(9, 10);
        due("a pair of which a part lies in it", x.belongs(2, 9), false);
        due("a pair of which the other part lies in it", x.belongs(2, 10), false);
        due("a pair of which both parts lie in it", x.belongs(2, 11), true);
    }

    // ---- Promises 2 to 9 ----

    private static void sentencesOnMakingTypes() {
        sentence("Promise 2: -1, refused, if mask is not 0 .. 63", BoundaryTest::masksTooSmallAndTooLarge);
        sentence("Promise 2: -1, refused, if there are 12 types", () -> refusedWithTwelve(x -> x.constants(1)));
        sentence("Promise 3: -1, refused, if it would be too deep", BoundaryTest::tooDeepProducts);
        sentence("Promise 3: -1, refused, if there are 12", () -> refusedWithTwelve(x -> x.product(0, 0)));
        sentence("Promise 4: too deep, as for product", BoundaryTest::tooDeepArrows);
        sentence("Promise 4: 12, as for product", () -> refusedWithTwelve(x -> x.arrow(0, 0)));
        sentence("Promise 5: 12, as for product", () -> refusedWithTwelve(x -> x.union(0, 0)));
        sentence("Promise 6: 12, as for product", () -> refusedWithTwelve(x -> x.meet(0, 0)));
        sentence("Promise 7: 12, as for product", () -> refusedWithTwelve(x -> x.not(0)));
        sentence("Promises 5 to 7: too deep, as for product: never", BoundaryTest::othersAreNeverTooDeep);
        sentence("Promise 8: -1, refused, if there are 12", () -> refusedWithTwelve(x -> x.any()));
        sentence("Promise 9: How many types there are.", BoundaryTest::typesFromNoneToTwelve);
    }

    private static void masksTooSmallAndTooLarge() {
        int[] bad = {-1, -2, -63, -64, MIN, MIN + 1, MIN + 63, 64, 65, 66, 127, 128, 255, 256, 65536, 1 << 30, MAX - 1, MAX};
        MeaningTypes x = new MeaningTypes();
        for (int mask : bad) {
            due("constants(" + mask + ")", x.constants(mask), -1);
        }
        due("types()", x.types(), 0);
        for (int mask = 0; mask < 64; mask++) {
            due("constants(" + mask + ")", x.constants(mask), 0);
            due("empty of mask " + mask, x.empty(0), mask == 0);
            x.cut(0);
        }
        due("types()", x.types(), 0);
    }

    private static void refusedWithTwelve(Call maker) {
        MeaningTypes x = withElevenTypes();
        due("with 11", maker.on(x), 11);
        due("with 12", maker.on(x), -1);
        due("with 12 again", maker.on(x), -1);
        due("types()", x.types(), 12);
        x.cut(11);
        due("with 11 again", maker.on(x), 11);
        due("with 12 again", maker.on(x), -1);
    }

    private static void tooDeepProducts() {
        MeaningTypes x = withDepths();
        due("product(5, 0)", x.product(5, 0), -1);
        due("product(0, 5)", x.product(0, 5), -1);
        due("product(5, 5)", x.product(5, 5), -1);
        due("product(4, 0)", x.product(4, 0), 6);
        due("product(0, 4)", x.product(0, 4), 7);
        due("product(4, 4)", x.product(4, 4), 8);
        due("product(8, 0)", x.product(8, 0), -1);
        due("types()", x.types(), 9);
    }

    private static void tooDeepArrows() {
        MeaningTypes x = withDepths();
        due("arrow(5, 0)", x.arrow(5, 0), -1);
        due("arrow(0, 5)", x.arrow(0, 5), -1);
        due("arrow(5, 5)", x.arrow(5, 5), -1);
        due("arrow(4, 0)", x.arrow(4, 0), 6);
        due("arrow(0, 4)", x.arrow(0, 4), 7);
        due("arrow(4, 4)", x.arrow(4, 4), 8);
        due("arrow(0, 8)", x.arrow(0, 8), -1);
        due("types()", x.types(), 9);
    }

    private static void othersAreNeverTooDeep() {
        MeaningTypes x = withDepths();
        due("union(5, 5)", x.union(5, 5), 6);
        due("meet(6, 5)", x.meet(6, 5), 7);
        due("not(7)", x.not(7), 8);
        due("union(8, 7)", x.union(8, 7), 9);
        due("meet(0, 9)", x.meet(0, 9), 10);
        due("not(10)", x.not(10), 11);
    }

    private static void typesFromNoneToTwelve() {
        MeaningTypes x = new MeaningTypes();
        for (int n = 0; n < 12; n++) {
            due("types()", x.types(), n);
            x.any();
        }
        due("types()", x.types(), 12);
        x.any();
        due("types() after a refused one", x.types(), 12);
        x.constant(0);
        due("types() with a value", x.types(), 12);
        x.cut(7);
        due("types() after a cut", x.types(), 7);
    }

    // ---- Types and values that are not there ----

    private static void sentencesOnPartsThatAreNotThere() {
        typeNotThere("Promise 3: -1, refused, if one of them is not there (a)", -1, (x, t) -> x.product(t, 0));
        typeNotThere("Promise 3: -1, refused, if one of them is not there (b)", -1, (x, t) -> x.product(0, t));
        typeNotThere("Promise 4: not there, as for product (a)", -1, (x, t) -> x.arrow(t, 0));
        typeNotThere("Promise 4: not there, as for product (b)", -1, (x, t) -> x.arrow(0, t));
        typeNotThere("Promise 5: not there, as for product (a)", -1, (x, t) -> x.union(t, 0));
        typeNotThere("Promise 5: not there, as for product (b)", -1, (x, t) -> x.union(0, t));
        typeNotThere("Promise 6: not there, as for product (a)", -1, (x, t) -> x.meet(t, 0));
        typeNotThere("Promise 6: not there, as for product (b)", -1, (x, t) -> x.meet(0, t));
        typeNotThere("Promise 7: not there, as for product", -1, (x, t) -> x.not(t));
        typeNotThere("Promise 10: false if there is no such type", 0, (x, t) -> number(x.empty(t)));
        typeNotThere("Promise 11: false if one of them is not there (a)", 0, (x, t) -> number(x.within(t, 1)));
        typeNotThere("Promise 11: false if one of them is not there (b)", 0, (x, t) -> number(x.within(0, t)));
        typeNotThere("Promise 11: false if one of them is not there (both)", 0, (x, t) -> number(x.within(t, t)));
        typeNotThere("Promise 12: -1 if one of them is not there (a)", -1, (x, t) -> x.compare(t, 1));
        typeNotThere("Promise 12: -1 if one of them is not there (b)", -1, (x, t) -> x.compare(0, t));
        typeNotThere("Promise 12: -1 if one of them is not there (both)", -1, (x, t) -> x.compare(t, t));
        typeNotThere("Promise 13: false if one of them is not there (a)", 0, (x, t) -> number(x.answers(t, 0, 1)));
        typeNotThere("Promise 13: false if one of them is not there (b)", 0, (x, t) -> number(x.answers(0, t, 1)));
        typeNotThere("Promise 13: false if one of them is not there (c)", 0, (x, t) -> number(x.answers(0, 1, t)));
        typeNotThere("Promise 16: -1, refused, if a is no type", -1, (x, t) -> x.function(t));
        typeNotThere("Promise 17: false if one of them is not there (type)", 0, (x, t) -> number(x.belongs(0, t)));
        typeNotThere("Promise 18: -1 if one of the types is not there (a)", -1, (x, t) -> x.match(0, t, 1, 1));
        typeNotThere("Promise 18: -1 if one of the types is not there (b)", -1, (x, t) -> x.match(0, 1, t, 1));
        typeNotThere("Promise 18: -1 if one of the types is not there (c)", -1, (x, t) -> x.match(0, 1, 1, t));
        typeNotThere("Promise 18: -1 if one of the types is not there (none has it)", -1, (x, t) -> x.match(0, 0, 0, t));
        valueNotThere("Promise 15: -1, refused, if one of them is not there (v)", -1, (x, v) -> x.pair(v, 0));
        valueNotThere("Promise 15: -1, refused, if one of them is not there (w)", -1, (x, v) -> x.pair(0, v));
        valueNotThere("Promise 17: false if one of them is not there (value)", 0, (x, v) -> number(x.belongs(v, 1)));
        valueNotThere("Promise 18: -1 if there is no such value", -1, (x, v) -> x.match(v, 1, 1, 1));
        valueNotThere("Promise 19: -1 if there is no such value", -1, (x, v) -> x.sorts(v));
    }

    /** Types 0: nothing, 1: any, 2 and 3: interfaces; values 0, 1, 2. */
    private static MeaningTypes withFourTypes() {
        MeaningTypes x = new MeaningTypes();
        x.constants(0);
        x.any();
        x.arrow(1, 1);
        x.meet(2, 2);
        x.constant(0);
        x.constant(1);
        x.function(3);
        return x;
    }

    private static void typeNotThere(String itsWords, int want, CallWith call) {
        sentence(itsWords, () -> {
            MeaningTypes x = withFourTypes();
            for (int t : NEVER_THERE) {
                due("with type " + t, call.on(x, t), want);
            }
            for (int t = 4; t < 20; t++) {
                due("with type " + t, call.on(x, t), want);
            }
            due("types()", x.types(), 4);
            // Full of types that were interfaces, and cut again: what was there is there no more.
            MeaningTypes y = withFourTypes();
            for (int t = 4; t < 12; t++) {
                y.meet(2, 3);
            }
            y.cut(4);
            y.constant(0);
            for (int t = 4; t < 12; t++) {
                due("with type " + t + ", which was there", call.on(y, t), want);
            }
            due("types()", y.types(), 4);
        });
    }

    private static void valueNotThere(String itsWords, int want, CallWith call) {
        sentence(itsWords, () -> {
            MeaningTypes x = withFourTypes();
            for (int v : NEVER_THERE) {
                due("with value " + v, call.on(x, v), want);
            }
            for (int v = 3; v < 20; v++) {
                due("with value " + v, call.on(x, v), want);
            }
            due("constant(0)", x.constant(0), 3);
            MeaningTypes y = withFourTypes();
            for (int v = 3; v < 20; v++) {
                y.constant(0);
            }
            y.cut(12);
            y.constant(0);
            for (int v = 1; v < 20; v++) {
                due("with value " + v + ", which was there", call.on(y, v), want);
            }
            due("constant(0)", y.constant(0), 1);
        });
    }

    // ---- Promises 10 to 12 ----

    private static void sentencesOnAskingForTypes() {
        sentence("Promise 10: Whether type a means the empty set", BoundaryTest::emptyOnes);
        sentence("Promise 11: each element of a is one of b", BoundaryTest::nothingLiesInAllAndAllInAny);
        sentence("Promise 12: 3 if a and b mean the same set", BoundaryTest::theSameSet);
        sentence("Promise 12: 1 if a lies in b", BoundaryTest::aInB);
        sentence("Promise 12: else 2 if b lies in a", BoundaryTest::bInA);
        sentence("Promise 12: else 4 if they have no element in common", BoundaryTest::nothingInCommon);
        sentence("Promise 12: else 0", BoundaryTest::crossing);
    }

    private static void emptyOnes() {
        MeaningTypes x = withFlatTypes();
        due("no constants", x.empty(0), true);
        due("one constant", x.empty(1), false);
        due("any", x.empty(4), false);
        due("constants without them", x.empty(x.meet(3, x.not(3))), true);
        due("any without any", x.empty(x.not(4)), true);
        due("a product with such", x.empty(x.product(7, 6)), true);
        due("an arrow to such", x.empty(x.arrow(4, 7)), false);
        due("an arrow from such", x.empty(x.arrow(7, 7)), false);
        due("12 types, the last one empty", x.empty(x.meet(8, 10)), true);
        due("types()", x.types(), 12);
    }

    private static void nothingLiesInAllAndAllInAny() {
        MeaningTypes x = withFlatTypes();
        x.arrow(1, 2);
        x.product(4, 4);
        x.product(4, 0);
        for (int t = 0; t < 8; t++) {
            due("nothing in " + t, x.within(0, t), true);
            due("an empty product in " + t, x.within(7, t), true);
            due(t + " in any", x.within(t, 4), true);
            due(t + " in itself", x.within(t, t), true);
            due(t + " in nothing", x.within(t, 0), t == 0 || t == 7);
            due("any in " + t, x.within(4, t), t == 4);
        }
    }

    private static void theSameSet() {
        MeaningTypes x = withFlatTypes();
        x.product(0, 4);
        x.not(0);
        for (int t = 0; t < 7; t++) {
            due("itself " + t, x.compare(t, t), 3);
        }
        due("two empty ones", x.compare(0, 5), 3);
        due("two empty ones, round", x.compare(5, 0), 3);
        due("two that mean all", x.compare(4, 6), 3);
        x.union(2, 1);
        due("made otherwise", x.compare(3, 7), 3);
    }

    private static void aInB() {
        MeaningTypes x = withFlatTypes();
        due("one constant in two", x.compare(1, 3), 1);
        due("constants in any", x.compare(3, 4), 1);
        due("nothing in a constant, though they share nothing", x.compare(0, 1), 1);
        due("nothing in any", x.compare(0, 4), 1);
    }

    private static void bInA() {
        MeaningTypes x = withFlatTypes();
        due("one constant in two", x.compare(3, 1), 2);
        due("constants in any", x.compare(4, 3), 2);
        due("nothing in a constant, though they share nothing", x.compare(1, 0), 2);
        due("nothing in any", x.compare(4, 0), 2);
    }

    private static void nothingInCommon() {
        MeaningTypes x = withFlatTypes();
        x.product(4, 4);
        x.arrow(4, 0);
        due("two constants", x.compare(1, 2), 4);
        due("constants and pairs", x.compare(3, 5), 4);
        due("pairs and functions", x.compare(5, 6), 4);
        due("functions and constants", x.compare(6, 3), 4);
        x.product(1, 4);
        x.product(2, 4);
        due("pairs with unlike firsts", x.compare(7, 8), 4);
        x.product(4, 1);
        x.product(4, 2);
        due("pairs with unlike seconds", x.compare(9, 10), 4);
    }

    private static void crossing() {
        MeaningTypes x = withFlatTypes();
        x.constants(6);
        due("one constant in common", x.compare(3, 5), 0);
        x.product(3, 3);
        x.product(5, 5);
        due("one pair in common", x.compare(6, 7), 0);
        x.arrow(1, 1);
        x.arrow(1, 2);
        due("functions without the step in common", x.compare(8, 9), 0);
        x.arrow(4, 1);
        x.arrow(4, 2);
        due("the function without steps in common", x.compare(10, 11), 0);
    }

    // ---- Promise 13 ----

    private static void sentencesOnAnswers() {
        sentence("Promise 13: Whether a lies in what the arrow of b and c means", BoundaryTest::answersAtTheEdges);
        sentence("Promise 13: (no type is made for that)", BoundaryTest::answersMakesNoType);
        sentence("Promise 13: false if that arrow would be too deep", BoundaryTest::answersWithTooDeepAnArrow);
    }

    private static void answersAtTheEdges() {
        MeaningTypes x = withFlatTypes();
        x.arrow(1, 2);
        x.arrow(4, 0);
        due("nothing in an arrow", x.answers(0, 1, 2), true);
        due("nothing in an arrow to nothing", x.answers(0, 4, 0), true);
        due("an arrow in itself", x.answers(5, 1, 2), true);
        due("an arrow in that from nothing", x.answers(5, 0, 0), true);
        due("an arrow in one to less", x.answers(5, 1, 0), false);
        due("an arrow in one from more", x.answers(5, 3, 2), false);
        due("the function without steps in all", x.answers(6, 4, 0), true);
        due("any in an arrow", x.answers(4, 0, 4), false);
        due("a constant in an arrow", x.answers(1, 0, 4), false);
        due("functions may fail", x.answers(5, 4, 4), false);
        x.arrow(0, 0);
        due("all functions from nothing", x.answers(7, 0, 0), true);
        due("all functions may fail", x.answers(7, 1, 4), false);
    }

    private static void answersMakesNoType() {
        MeaningTypes x = withElevenTypes();
        due("with 11 types", x.answers(1, 0, 0), true);
        due("types()", x.types(), 11);
        due("the 12th is not there", x.compare(0, 11), -1);
        due("any()", x.any(), 11);
        due("with 12 types", x.answers(1, 0, 0), true);
        due("with 12 types, false", x.answers(1, 11, 0), false);
        due("with 12 types, the last of them", x.answers(11, 0, 0), false);
        due("types()", x.types(), 12);
        due("a 13th is not there", x.compare(0, 12), -1);
        due("nor an interface", x.function(12), -1);
        due("any() as the 13th", x.any(), -1);
        x.constant(0);
        due("sorts(0) counts no 13th", x.sorts(0), 11);
        x.function(1);
        due("sorts(1) counts no 13th", x.sorts(1), 11);
    }

    private static void answersWithTooDeepAnArrow() {
        MeaningTypes x = withDepths();
        x.constants(0);
        for (int p = 0; p <= 5; p++) {
            for (int q = 0; q <= 5; q++) {
                due("nothing in depths " + p + " and " + q, x.answers(6, p, q), p < 5 && q < 5);
            }
        }
        due("depth 5 in itself", x.answers(5, 0, 4), true);
        due("types()", x.types(), 7);
        x.not(5);
        x.union(0, 5);
        x.meet(0, 5);
        for (int t = 7; t < 10; t++) {
            due("nothing in one from type " + t, x.answers(6, t, 0), false);
            due("nothing in one to type " + t, x.answers(6, 0, t), false);
        }
    }

    // ---- Promises 14 to 16 ----

    private static void sentencesOnMakingValues() {
        sentence("Promise 14: -1, refused, if c is not 0 .. 5", BoundaryTest::constantsTooSmallAndTooLarge);
        sentence("Promise 14: -1, refused, if there are 20 values", () -> refusedWithTwenty(x -> x.constant(0)));
        sentence("Promise 15: -1, refused, if there are 20", () -> refusedWithTwenty(x -> x.pair(0, 0)));
        sentence("Promise 15: -1, refused, if it would have more than 4 constants and functions in it",
            BoundaryTest::pairsOfFourAndNoMore);
        sentence("Promise 16: -1, refused, if a is no type that is an interface", BoundaryTest::noInterfaces);
        sentence("Promise 16: -1, refused, if there are 20 values", () -> refusedWithTwenty(x -> x.function(1)));
    }

    private static void constantsTooSmallAndTooLarge() {
        int[] bad = {-1, -2, -6, -32, -64, MIN, MIN + 5, 6, 7, 8, 31, 32, 33, 37, 64, 69, 256, 65536, MAX - 1, MAX};
        MeaningTypes x = new MeaningTypes();
        x.constants(63);
        for (int c : bad) {
            due("constant(" + c + ")", x.constant(c), -1);
        }
        due("sorts(0)", x.sorts(0), -1);
        for (int c = 0; c < 6; c++) {
            due("constant(" + c + ")", x.constant(c), c);
            due("it is one of the six", x.belongs(c, 0), true);
        }
    }

    private static void refusedWithTwenty(Call maker) {
        MeaningTypes x = withNineteenValues();
        due("with 19", maker.on(x), 19);
        due("with 20", maker.on(x), -1);
        due("with 20 again", maker.on(x), -1);
        due("sorts(20)", x.sorts(20), -1);
        x.cut(2);
        x.constant(0);
        due("with one", maker.on(x), 1);
    }

    private static void pairsOfFourAndNoMore() {
        MeaningTypes x = new MeaningTypes();
        x.any();
        x.arrow(0, 0);
        int[] holding = new int[20];
        due("constant(0)", x.constant(0), 0);
        due("function(1)", x.function(1), 1);
        holding[0] = 1;
        holding[1] = 1;
        int count = 2;
        int[][] parts = {{0, 1}, {1, 1}, {2, 0}, {1, 3}, {2, 3}, {4, 1}, {0, 5}, {3, 3}};
        for (int[] part : parts) {
            due("pair(" + part[0] + ", " + part[1] + ")", x.pair(part[0], part[1]), count);
            holding[count] = holding[part[0]] + holding[part[1]];
            count++;
        }
        for (int v = 0; v < count; v++) {
            for (int w = 0; w < count; w++) {
                if (holding[v] + holding[w] > 4) {
                    due(holding[v] + " and " + holding[w] + " in it", x.pair(v, w), -1);
                }
            }
        }
        due("the next number", x.constant(3), count);
    }

    private static void noInterfaces() {
        MeaningTypes x = withFlatTypes();
        x.arrow(1, 1);
        x.union(5, 5);
        x.not(5);
        x.not(7);
        x.product(5, 5);
        x.meet(5, 6);
        x.meet(6, 5);
        for (int t = 0; t < 12; t++) {
            due("function(" + t + ")", x.function(t), t == 5 ? 0 : -1);
        }
        due("the next number", x.constant(0), 1);
        x.cut(5);
        due("product(1, 1) where an arrow was", x.product(1, 1), 5);
        due("function(5)", x.function(5), -1);
        due("meet(5, 5)", x.meet(5, 5), 6);
        due("function(6)", x.function(6), -1);
    }

    // ---- Promises 17 to 19 ----

    private static void sentencesOnAskingForValues() {
        sentence("Promise 18: The first of the types a, b, c", BoundaryTest::theFirstThatMatches);
        sentence("Promise 18: 0 if it belongs to none", BoundaryTest::noneThatMatches);
        sentence("Promise 19: How many types of those that there are", BoundaryTest::sortsFromNoneToTwelve);
    }

    private static void theFirstThatMatches() {
        MeaningTypes x = withFlatTypes();
        x.constant(0);
        int[] out = {0, 2};
        int[] in = {1, 3, 4};
        for (int o : out) {
            for (int i : in) {
                due("all three", x.match(0, i, i, i), 1);
                due("first and second", x.match(0, i, i, o), 1);
                due("first and third", x.match(0, i, o, i), 1);
                due("first alone", x.match(0, i, o, o), 1);
                due("second and third", x.match(0, o, i, i), 2);
                due("second alone", x.match(0, o, i, o), 2);
                due("third alone", x.match(0, o, o, i), 3);
            }
        }
    }

    private static void noneThatMatches() {
        MeaningTypes x = withFlatTypes();
        x.arrow(1, 1);
        x.not(5);
        x.constant(1);
        x.function(5);
        due("a constant", x.match(0, 0, 1, 5), 0);
        due("the same type three times", x.match(0, 1, 1, 1), 0);
        due("a function", x.match(1, 0, 3, 6), 0);
        x.arrow(2, 2);
        x.not(7);
        due("a function that lies partly in each", x.match(1, 7, 8, 7), 0);
    }

    private static void sortsFromNoneToTwelve() {
        MeaningTypes x = new MeaningTypes();
        x.constant(0);
        x.constant(5);
        for (int n = 0; n < 12; n++) {
            due("sorts(0) with " + n + " types", x.sorts(0), n);
            due("sorts(1) with " + n + " types", x.sorts(1), (n + 1) / 2);
            x.constants(n % 2 == 0 ? 63 : 1);
        }
        due("sorts(0) with 12 types", x.sorts(0), 12);
        due("sorts(1) with 12 types", x.sorts(1), 6);
        x.pair(0, 1);
        due("sorts(2), in none", x.sorts(2), 0);
    }

    // ---- Promise 20 ----

    private static void sentencesOnCut() {
        sentence("Promise 20: Takes all values away", BoundaryTest::cutTakesAllValues);
        sentence("Promise 20: and all types from number n on", BoundaryTest::cutTakesTypesFromTheNumberOn);
        sentence("Promise 20: how many types are left", BoundaryTest::cutTellsHowManyAreLeft);
        sentence("Promise 20: n below 0 counts as 0.", BoundaryTest::cutBelowZero);
        sentence("Promise 20: Takes away: nothing of them is left", BoundaryTest::cutLeavesNoTrace);
    }

    private static void cutTakesAllValues() {
        int[] numbers = {MIN, -1, 0, 1, 2, 3, 12, 13, MAX};
        for (int n : numbers) {
            MeaningTypes x = withTwentyValues();
            x.cut(n);
            for (int v = 0; v < 20; v++) {
                due("sorts(" + v + ") after cut(" + n + ")", x.sorts(v), -1);
            }
            for (int v = 0; v < 20; v++) {
                due("constant(0) after cut(" + n + ")", x.constant(0), v);
            }
            due("constant(0) with 20", x.constant(0), -1);
        }
    }

    private static void cutTakesTypesFromTheNumberOn() {
        for (int n = 0; n <= 12; n++) {
            MeaningTypes x = withTwelveTypes();
            x.cut(n);
            for (int t = 0; t < 12; t++) {
                due("compare(" + t + ", " + t + ") after cut(" + n + ")", x.compare(t, t), t < n ? 3 : -1);
            }
            for (int t = n; t < 12; t++) {
                due("any() after cut(" + n + ")", x.any(), t);
            }
            due("any() with 12", x.any(), -1);
            due("the first one", x.compare(0, 11), n == 0 ? 3 : 1);
        }
    }

    private static void cutTellsHowManyAreLeft() {
        int[] above = {12, 13, 14, 20, 31, 32, 33, 64, 256, 65536, MAX - 1, MAX};
        MeaningTypes x = withTwelveTypes();
        for (int n : above) {
            due("cut(" + n + ")", x.cut(n), 12);
            due("types()", x.types(), 12);
        }
        for (int n = 11; n >= 0; n--) {
            due("cut(" + n + ")", x.cut(n), n);
            due("cut(" + (n + 1) + ") does not bring one back", x.cut(n + 1), n);
            due("types()", x.types(), n);
        }
        for (int n : above) {
            due("cut(" + n + ") of none", x.cut(n), 0);
        }
    }

    private static void cutBelowZero() {
        int[] below = {-1, -2, -12, -13, -31, -32, -33, -64, -256, -65536, MIN + 1, MIN};
        for (int n : below) {
            MeaningTypes x = withTwelveTypes();
            x.constant(0);
            due("cut(" + n + ")", x.cut(n), 0);
            due("types()", x.types(), 0);
            due("sorts(0)", x.sorts(0), -1);
            due("cut(" + n + ") of none", x.cut(n), 0);
            due("constants(4)", x.constants(4), 0);
            due("empty(0)", x.empty(0), false);
        }
    }

    private static void cutLeavesNoTrace() {
        MeaningTypes x = withDepths();
        x.cut(1);
        due("depth 0 again", x.any(), 1);
        dueDepth(x, 1, 0);
        due("arrow(0, 0)", x.arrow(0, 0), 2);
        dueDepth(x, 2, 1);
        due("function(1)", x.function(1), -1);
        due("function(2)", x.function(2), 0);
        due("belongs(0, 0)", x.belongs(0, 0), false);
        due("compare(0, 1)", x.compare(0, 1), 1);
        due("compare(2, 1)", x.compare(2, 1), 1);
        due("compare(2, 0)", x.compare(2, 0), 4);
        x.cut(2);
        due("constants(3)", x.constants(3), 2);
        due("compare(2, 0)", x.compare(2, 0), 2);
        due("compare(2, 1)", x.compare(2, 1), 1);
    }
}
