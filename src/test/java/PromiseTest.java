/** Each promise of the document: ordinary inputs, the edges that it names, and wrong inputs. */
public final class PromiseTest {

    private static final int[] WRONG_NUMBERS = {Integer.MIN_VALUE, -32, -1, 12, 20, 31, 32, 33, 64, Integer.MAX_VALUE};

    private static int wrong = 0;

    public static void main(String[] args) {
        promise1NewObject();
        promise2Constants();
        promise3Product();
        promise4Arrow();
        promise4ArrowAndFailure();
        promise5Union();
        promise6Meet();
        promise7Not();
        promise8Any();
        promise9Types();
        promise10Empty();
        promise11Within();
        promise12Compare();
        promise13Answers();
        promise13AnswersWithTwelveTypes();
        promise14Constant();
        promise15Pair();
        promise16Function();
        promise17Belongs();
        promise17BelongsSeesLaterTypes();
        promise17DeepSorts();
        promise18Match();
        promise19Sorts();
        promise20Cut();
        depthIsCountedByKind();
        refusedCallsChangeNothing();
        wrongNumbersAreRefusedEverywhere();
        System.out.println(wrong == 0 ? "PromiseTest: all answers are as due" : "PromiseTest: " + wrong + " wrong");
        if (wrong != 0) {
            System.exit(1);
        }
    }

    private static void due(String what, int got, int want) {
        if (got != want) {
            wrong++;
            System.out.println(what + " answered " + got + ", due is " + want);
        }
    }

    private static void due(String what, boolean got, boolean want) {
        due(what, got ? 1 : 0, want ? 1 : 0);
    }

    private static MeaningTypes withTwelveTypes() {
        MeaningTypes x = new MeaningTypes();
        x.constants(1);
        x.arrow(0, 0);
        for (int t = 2; t < 12; t++) {
            x.any();
        }
        return x;
    }

    private static MeaningTypes withTwentyValues() {
        MeaningTypes x = new MeaningTypes();
        x.any();
        x.arrow(0, 0);
        for (int v = 0; v < 20; v++) {
            due("1..20 constants", x.constant(v % 6), v);
        }
        return x;
    }

    /** Type 0 has depth 0, type d the depth d, up to 5. */
    private static MeaningTypes withDepths() {
        MeaningTypes x = new MeaningTypes();
        x.constants(1);
        for (int d = 1; d <= 5; d++) {
            due("depth " + d, d % 2 == 0 ? x.product(d - 1, 0) : x.arrow(0, d - 1), d);
        }
        return x;
    }

    private static void promise1NewObject() {
        MeaningTypes x = new MeaningTypes();
        due("1 types", x.types(), 0);
        due("1 empty", x.empty(0), false);
        due("1 sorts", x.sorts(0), -1);
        due("1 first type", x.any(), 0);
        due("1 first value", x.constant(5), 0);
        MeaningTypes y = new MeaningTypes();
        due("1 another object is new, too", y.types(), 0);
        due("1 another object has no value", y.sorts(0), -1);
    }

    private static void promise2Constants() {
        MeaningTypes x = new MeaningTypes();
        due("2 below", x.constants(-1), -1);
        due("2 above", x.constants(64), -1);
        due("2 far below", x.constants(Integer.MIN_VALUE), -1);
        due("2 far above", x.constants(Integer.MAX_VALUE), -1);
        due("2 none", x.constants(0), 0);
        due("2 all", x.constants(63), 1);
        due("2 some", x.constants(37), 2);
        for (int c = 0; c < 6; c++) {
            due("2 a value", x.constant(c), c);
            due("2 none has it", x.belongs(c, 0), false);
            due("2 all has it", x.belongs(c, 1), true);
            due("2 some has it", x.belongs(c, 2), c == 0 || c == 2 || c == 5);
        }
        due("2 the same mask again is a new type", x.constants(37), 3);
        due("2 with the same meaning", x.compare(2, 3), 3);
        due("2 with 12", withTwelveTypes().constants(1), -1);
    }

    private static void promise3Product() {
        MeaningTypes x = new MeaningTypes();
        due("3 nothing there", x.product(0, 0), -1);
        x.constants(3);
        x.constants(5);
        due("3 second not there", x.product(0, 2), -1);
        due("3 first not there", x.product(-1, 0), -1);
        due("3 made", x.product(0, 1), 2);
        due("3 turned round", x.product(1, 0), 3);
        due("3 order tells", x.compare(2, 3), 0);
        x.meet(2, 3);
        x.constants(1);
        x.product(5, 5);
        due("3 common part", x.compare(4, 6), 3);
        x.constants(0);
        x.product(7, 0);
        x.product(0, 7);
        due("3 empty first", x.empty(8), true);
        due("3 empty second", x.empty(9), true);
        due("3 with 12", withTwelveTypes().product(0, 0), -1);
        MeaningTypes deep = withDepths();
        due("3 first too deep", deep.product(5, 0), -1);
        due("3 second too deep", deep.product(0, 5), -1);
        due("3 deep enough", deep.product(4, 4), 6);
    }

    private static void promise4Arrow() {
        MeaningTypes x = new MeaningTypes();
        due("4 nothing there", x.arrow(0, 0), -1);
        x.constants(1);
        x.constants(3);
        due("4 not there", x.arrow(0, 2), -1);
        due("4 not there", x.arrow(2, 0), -1);
        due("4 made", x.arrow(0, 1), 2);
        due("4 less from", x.arrow(1, 1), 3);
        due("4 less to", x.arrow(0, 0), 4);
        due("4 turns from round", x.compare(3, 2), 1);
        due("4 keeps to", x.compare(4, 2), 1);
        due("4 neither", x.compare(3, 4), 0);
        due("4 with 12", withTwelveTypes().arrow(0, 0), -1);
        MeaningTypes deep = withDepths();
        due("4 first too deep", deep.arrow(5, 0), -1);
        due("4 second too deep", deep.arrow(0, 5), -1);
        due("4 deep enough", deep.arrow(4, 4), 6);
    }

    private static void promise4ArrowAndFailure() {
        MeaningTypes x = new MeaningTypes();
        x.any();
        x.constants(0);
        x.arrow(0, 0);
        x.arrow(1, 1);
        x.arrow(1, 0);
        due("4 a step to failure is not to any", x.compare(2, 3), 1);
        due("4 from nothing all functions", x.compare(3, 4), 3);
        x.arrow(0, 1);
        due("4 the function without steps", x.empty(5), false);
        due("4 lies in each arrow", x.compare(5, 2), 1);
        x.constants(63);
        x.product(0, 0);
        x.union(6, 7);
        x.union(8, 3);
        due("4 constants, pairs and functions are all", x.compare(9, 0), 3);
        due("4 constants and pairs are not", x.compare(8, 0), 1);
        x.not(8);
        due("4 the others are the functions", x.compare(10, 3), 3);
    }

    private static void promise5Union() {
        MeaningTypes x = new MeaningTypes();
        due("5 nothing there", x.union(0, 0), -1);
        x.constants(1);
        x.constants(6);
        due("5 not there", x.union(0, 2), -1);
        due("5 not there", x.union(2, 0), -1);
        due("5 made", x.union(0, 1), 2);
        x.constants(7);
        due("5 of constants", x.compare(2, 3), 3);
        x.product(0, 1);
        x.product(1, 1);
        x.union(4, 5);
        x.product(3, 1);
        due("5 of products", x.compare(6, 7), 3);
        x.arrow(0, 0);
        x.arrow(1, 0);
        x.union(8, 9);
        x.arrow(2, 0);
        due("5 of arrows", x.compare(11, 10), 1);
        due("5 with 12", x.union(0, 0), -1);
    }

    private static void promise6Meet() {
        MeaningTypes x = new MeaningTypes();
        due("6 nothing there", x.meet(0, 0), -1);
        x.constants(3);
        x.constants(6);
        due("6 not there", x.meet(0, 2), -1);
        due("6 not there", x.meet(2, 0), -1);
        due("6 made", x.meet(0, 1), 2);
        x.constants(2);
        due("6 of constants", x.compare(2, 3), 3);
        x.arrow(0, 3);
        x.arrow(1, 3);
        x.meet(4, 5);
        x.union(0, 1);
        x.arrow(7, 3);
        due("6 arrows to the same", x.compare(6, 8), 3);
        x.product(0, 0);
        x.meet(9, 8);
        due("6 of unlike kinds", x.empty(10), true);
        x.any();
        due("6 with 12", x.meet(0, 0), -1);
    }

    private static void promise7Not() {
        MeaningTypes x = new MeaningTypes();
        due("7 nothing there", x.not(0), -1);
        x.constants(63);
        due("7 not there", x.not(1), -1);
        due("7 not there", x.not(-1), -1);
        due("7 made", x.not(0), 1);
        due("7 apart", x.compare(0, 1), 4);
        x.not(1);
        due("7 twice", x.compare(0, 2), 3);
        x.any();
        x.not(3);
        due("7 of any", x.empty(4), true);
        x.union(0, 1);
        due("7 both are any", x.compare(5, 3), 3);
        x.arrow(0, 0);
        x.not(6);
        due("7 a function is outside of an arrow, and all else", x.compare(0, 7), 1);
        due("7 with 12", withTwelveTypes().not(0), -1);
        MeaningTypes deep = withDepths();
        due("7 as deep as its part", deep.not(5), 6);
        due("7 and so too deep a part", deep.arrow(6, 0), -1);
    }

    private static void promise8Any() {
        MeaningTypes x = new MeaningTypes();
        for (int t = 0; t < 12; t++) {
            due("8 any", x.any(), t);
        }
        due("8 with 12", x.any(), -1);
        due("8 all the same", x.compare(0, 11), 3);
        due("8 not empty", x.empty(11), false);
        x.cut(11);
        due("8 room again", x.any(), 11);
    }

    private static void promise9Types() {
        MeaningTypes x = new MeaningTypes();
        due("9 none", x.types(), 0);
        x.any();
        due("9 one", x.types(), 1);
        x.not(5);
        due("9 refused", x.types(), 1);
        x.answers(0, 0, 0);
        due("9 answers makes none", x.types(), 1);
        x.constant(0);
        due("9 values are none", x.types(), 1);
        due("9 twelve", withTwelveTypes().types(), 12);
    }

    private static void promise10Empty() {
        MeaningTypes x = new MeaningTypes();
        due("10 not there", x.empty(0), false);
        x.constants(0);
        x.constants(32);
        x.any();
        due("10 no constants", x.empty(0), true);
        due("10 a constant", x.empty(1), false);
        due("10 any", x.empty(2), false);
        due("10 not there", x.empty(3), false);
        due("10 not there", x.empty(-1), false);
        due("10 not there, if counted round", x.empty(32), false);
        x.arrow(2, 0);
        due("10 an arrow", x.empty(3), false);
        x.product(3, 0);
        due("10 a product with nothing", x.empty(4), true);
        x.not(3);
        x.meet(3, 5);
        due("10 a set without itself", x.empty(6), true);
    }

    private static void promise11Within() {
        MeaningTypes x = new MeaningTypes();
        x.constants(1);
        x.constants(2);
        x.union(0, 1);
        x.product(2, 2);
        x.product(0, 2);
        x.product(1, 2);
        x.union(4, 5);
        due("11 split at the first part", x.within(3, 6), true);
        due("11 and back", x.within(6, 3), true);
        due("11 one half", x.within(3, 4), false);
        due("11 itself", x.within(5, 5), true);
        due("11 not there", x.within(0, 7), false);
        due("11 not there", x.within(7, 0), false);
        due("11 not there, and the same", x.within(7, 7), false);
        due("11 not there, if counted round", x.within(0, 34), false);
        x.arrow(2, 0);
        x.arrow(2, 1);
        x.union(7, 8);
        x.arrow(2, 2);
        due("11 union of arrows in the arrow", x.within(9, 10), true);
        due("11 a function may go to both", x.within(10, 9), false);
    }

    private static void promise12Compare() {
        MeaningTypes x = new MeaningTypes();
        x.constants(0);
        x.constants(1);
        x.constants(3);
        x.constants(6);
        x.constants(8);
        x.constants(3);
        due("12 the same", x.compare(2, 5), 3);
        due("12 itself", x.compare(2, 2), 3);
        due("12 in", x.compare(1, 2), 1);
        due("12 round", x.compare(2, 1), 2);
        due("12 apart", x.compare(2, 4), 4);
        due("12 crossing", x.compare(2, 3), 0);
        due("12 nothing lies in all, before it is apart", x.compare(0, 4), 1);
        due("12 nothing lies in all, also round", x.compare(4, 0), 2);
        x.product(0, 4);
        due("12 two empty ones", x.compare(0, 6), 3);
        due("12 not there", x.compare(0, 7), -1);
        due("12 not there", x.compare(7, 0), -1);
        due("12 not there, if counted round", x.compare(-32, 32), -1);
        x.arrow(1, 4);
        x.arrow(1, 2);
        due("12 arrows are never apart", x.compare(7, 8), 0);
    }

    private static void promise13Answers() {
        MeaningTypes x = new MeaningTypes();
        x.constants(1);
        x.constants(2);
        x.arrow(0, 1);
        due("13 itself", x.answers(2, 0, 1), true);
        due("13 another one", x.answers(2, 1, 0), false);
        due("13 no function", x.answers(0, 0, 1), false);
        x.any();
        due("13 more than functions", x.answers(3, 0, 1), false);
        x.constants(0);
        due("13 all functions", x.answers(2, 4, 4), true);
        due("13 nothing", x.answers(4, 0, 1), true);
        due("13 not there", x.answers(5, 0, 1), false);
        due("13 not there", x.answers(4, 5, 1), false);
        due("13 not there", x.answers(4, 0, 5), false);
        due("13 no type made", x.types(), 5);
        MeaningTypes deep = withDepths();
        due("13 deep enough", deep.answers(5, 0, 4), true);
        deep.constants(0);
        due("13 nothing in a deep one", deep.answers(6, 4, 4), true);
        due("13 first too deep", deep.answers(6, 5, 0), false);
        due("13 second too deep", deep.answers(6, 0, 5), false);
    }

    private static void promise13AnswersWithTwelveTypes() {
        MeaningTypes x = new MeaningTypes();
        x.constants(1);
        x.constants(2);
        x.arrow(0, 0);
        x.arrow(1, 1);
        x.meet(2, 3);
        x.union(0, 1);
        for (int t = 6; t < 12; t++) {
            x.any();
        }
        due("13 with 12", x.answers(4, 5, 5), true);
        due("13 with 12", x.answers(2, 5, 5), false);
        due("13 with 12", x.answers(11, 5, 5), false);
        due("13 with 12 still 12", x.types(), 12);
        due("13 no 13th to be seen", x.within(4, 12), false);
        due("13 the others as before", x.compare(11, 6), 3);
        due("13 the others as before", x.compare(4, 2), 1);
    }

    private static void promise14Constant() {
        MeaningTypes x = new MeaningTypes();
        due("14 below", x.constant(-1), -1);
        due("14 above", x.constant(6), -1);
        due("14 far above", x.constant(Integer.MAX_VALUE), -1);
        due("14 far below", x.constant(Integer.MIN_VALUE), -1);
        due("14 without types", x.constant(0), 0);
        due("14 the same again", x.constant(0), 1);
        due("14 the last", x.constant(5), 2);
        due("14 with 20", withTwentyValues().constant(0), -1);
    }

    private static void promise15Pair() {
        MeaningTypes x = new MeaningTypes();
        due("15 nothing there", x.pair(0, 0), -1);
        x.constant(0);
        x.constant(1);
        due("15 not there", x.pair(0, 2), -1);
        due("15 not there", x.pair(-1, 0), -1);
        due("15 two", x.pair(0, 1), 2);
        due("15 three", x.pair(2, 0), 3);
        due("15 four", x.pair(0, 3), 4);
        due("15 five", x.pair(4, 0), -1);
        due("15 five, round", x.pair(1, 4), -1);
        due("15 four by twos", x.pair(2, 2), 5);
        due("15 five by two and three", x.pair(2, 3), -1);
        x.any();
        x.arrow(0, 0);
        due("15 a function", x.function(1), 6);
        due("15 functions count", x.pair(6, 3), 7);
        due("15 functions count", x.pair(6, 7), -1);
        due("15 with 20", withTwentyValues().pair(0, 0), -1);
    }

    private static void promise16Function() {
        MeaningTypes x = new MeaningTypes();
        due("16 nothing there", x.function(0), -1);
        x.constants(1);
        x.arrow(0, 0);
        x.arrow(0, 1);
        x.meet(1, 2);
        x.meet(3, 1);
        x.union(1, 1);
        x.meet(1, 0);
        x.meet(1, 5);
        x.not(1);
        x.not(8);
        x.product(1, 1);
        due("16 constants", x.function(0), -1);
        due("16 an arrow", x.function(1), 0);
        due("16 an intersection", x.function(3), 1);
        due("16 an intersection of one", x.function(4), 2);
        due("16 a union", x.function(5), -1);
        due("16 an intersection with another type", x.function(6), -1);
        due("16 an intersection with a union", x.function(7), -1);
        due("16 a complement", x.function(8), -1);
        due("16 a complement twice, not made as an arrow", x.function(9), -1);
        due("16 a product", x.function(10), -1);
        due("16 not there", x.function(11), -1);
        due("16 not there", x.function(-1), -1);
        due("16 not there, if counted round", x.function(33), -1);
        due("16 with 20", withTwentyValues().function(1), -1);
        x.cut(1);
        x.any();
        due("16 a number that was an interface", x.function(1), -1);
    }

    private static void promise17Belongs() {
        MeaningTypes x = new MeaningTypes();
        x.constants(1);
        x.constants(2);
        x.product(0, 1);
        x.arrow(0, 1);
        x.product(3, 0);
        x.any();
        x.constant(0);
        x.constant(1);
        x.pair(0, 1);
        x.pair(1, 0);
        x.function(3);
        x.pair(4, 0);
        due("17 a constant", x.belongs(0, 0), true);
        due("17 another constant", x.belongs(1, 0), false);
        due("17 a pair", x.belongs(2, 2), true);
        due("17 a pair round", x.belongs(3, 2), false);
        due("17 a function", x.belongs(4, 3), true);
        due("17 a pair with a function", x.belongs(5, 4), true);
        due("17 any", x.belongs(5, 5), true);
        due("17 no value", x.belongs(6, 5), false);
        due("17 no value", x.belongs(-1, 5), false);
        due("17 no type", x.belongs(0, 6), false);
        due("17 no type, if counted round", x.belongs(0, 32), false);
    }

    private static void promise17BelongsSeesLaterTypes() {
        MeaningTypes x = new MeaningTypes();
        x.constants(1);
        x.arrow(0, 0);
        x.function(1);
        x.constants(2);
        x.arrow(2, 2);
        due("17 a sort is not known to lie in a later one", x.belongs(0, 3), false);
        x.not(3);
        due("17 nor in what is outside", x.belongs(0, 4), false);
        x.union(3, 4);
        due("17 but in both together", x.belongs(0, 5), true);
        x.constants(3);
        x.arrow(0, 6);
        due("17 a later and greater one", x.belongs(0, 7), true);
        x.constant(0);
        x.pair(1, 0);
        x.product(0, 7);
        due("17 pairs, too", x.belongs(2, 8), true);
    }

    private static void promise17DeepSorts() {
        MeaningTypes x = withDepths();
        x.function(5);
        x.constant(0);
        x.pair(0, 1);
        x.pair(2, 1);
        x.any();
        x.product(6, 6);
        x.product(7, 0);
        x.product(8, 0);
        due("17 a sort of depth 7 in a product", x.belongs(3, 7), true);
        due("17 in a product of a product", x.belongs(3, 8), true);
        due("17 not deeper", x.belongs(3, 9), false);
        x.pair(3, 1);
        due("17 a sort of depth 8", x.belongs(4, 9), true);
        x.pair(1, 3);
        due("17 a sort of depth 8 round", x.belongs(5, 9), false);
        due("17 a sort of depth 8 round", x.belongs(5, 7), true);
        x.pair(2, 2);
        due("17 two twos", x.belongs(6, 8), false);
        x.product(7, 7);
        due("17 two twos", x.belongs(6, 10), true);
        due("17 not two twos", x.belongs(4, 10), false);
    }

    private static void promise18Match() {
        MeaningTypes x = new MeaningTypes();
        x.constants(1);
        x.constants(2);
        x.any();
        x.constants(4);
        x.constant(0);
        due("18 first", x.match(0, 0, 1, 2), 1);
        due("18 first of two", x.match(0, 2, 0, 2), 1);
        due("18 second", x.match(0, 1, 0, 2), 2);
        due("18 third", x.match(0, 1, 3, 2), 3);
        due("18 none", x.match(0, 1, 3, 1), 0);
        due("18 no value", x.match(1, 0, 0, 0), -1);
        due("18 no value", x.match(-1, 0, 0, 0), -1);
        due("18 no first type", x.match(0, 4, 0, 0), -1);
        due("18 no second type, though the first has it", x.match(0, 0, 4, 0), -1);
        due("18 no third type, though the first has it", x.match(0, 0, 0, 4), -1);
        due("18 no third type", x.match(0, 1, 1, -1), -1);
    }

    private static void promise19Sorts() {
        MeaningTypes x = new MeaningTypes();
        x.constant(0);
        due("19 no types", x.sorts(0), 0);
        x.constants(1);
        x.constants(1);
        x.constants(2);
        due("19 each type counts", x.sorts(0), 2);
        x.any();
        x.not(2);
        due("19 later types count", x.sorts(0), 4);
        x.pair(0, 0);
        x.product(3, 0);
        due("19 a pair", x.sorts(1), 3);
        due("19 no value", x.sorts(2), -1);
        due("19 no value", x.sorts(-1), -1);
        MeaningTypes y = withTwelveTypes();
        y.constant(0);
        y.function(1);
        due("19 with 12", y.sorts(0), 11);
        due("19 a function with 12", y.sorts(1), 11);
    }

    private static void promise20Cut() {
        MeaningTypes x = withTwelveTypes();
        x.constant(0);
        due("20 above", x.cut(13), 12);
        due("20 values go even so", x.sorts(0), -1);
        due("20 numbers of values begin anew", x.constant(3), 0);
        due("20 at the end", x.cut(12), 12);
        due("20 far above", x.cut(Integer.MAX_VALUE), 12);
        due("20 in the middle", x.cut(2), 2);
        due("20 gone", x.empty(2), false);
        due("20 gone", x.within(0, 2), false);
        due("20 the left ones are as they were", x.compare(0, 1), 4);
        due("20 numbers go on", x.constants(3), 2);
        due("20 with a new meaning", x.compare(0, 2), 1);
        due("20 another one", x.product(2, 2), 3);
        due("20 with a new meaning", x.compare(3, 2), 4);
        due("20 below", x.cut(-1), 0);
        due("20 none left", x.types(), 0);
        due("20 still none", x.cut(5), 0);
        x.any();
        due("20 far below", x.cut(Integer.MIN_VALUE), 0);
        due("20 begin anew", x.any(), 0);
        due("20 zero", x.cut(0), 0);
    }

    private static void depthIsCountedByKind() {
        MeaningTypes x = withDepths();
        due("union keeps the depth", x.union(0, 5), 6);
        due("and is too deep a part", x.product(6, 0), -1);
        due("meet keeps the depth", x.meet(5, 0), 7);
        due("and is too deep a part", x.product(0, 7), -1);
        due("a union of less", x.union(4, 0), 8);
        due("is a part", x.arrow(8, 8), 9);
        due("a meet of arrows at depth 5", x.meet(5, 9), 10);
        due("is an interface", x.function(10), 0);
    }

    private static void refusedCallsChangeNothing() {
        MeaningTypes x = withTwelveTypes();
        x.constant(0);
        x.constants(5);
        x.product(0, 0);
        x.arrow(0, 0);
        x.not(0);
        x.any();
        x.pair(0, 7);
        x.function(0);
        x.constant(9);
        due("types as before", x.types(), 12);
        due("one value", x.sorts(1), -1);
        due("with the same types", x.sorts(0), 11);
        due("and the same meanings", x.compare(0, 1), 4);
        due("the next value", x.constant(1), 1);
        MeaningTypes y = withTwentyValues();
        y.constant(1);
        y.pair(0, 0);
        y.function(1);
        due("twenty values", y.sorts(20), -1);
        due("the last as before", y.sorts(19), 1);
    }

    private static void wrongNumbersAreRefusedEverywhere() {
        MeaningTypes x = new MeaningTypes();
        x.any();
        x.arrow(0, 0);
        x.constant(0);
        for (int bad : WRONG_NUMBERS) {
            due("product " + bad, x.product(bad, 0) + x.product(0, bad), -2);
            due("arrow " + bad, x.arrow(bad, 0) + x.arrow(0, bad), -2);
            due("union " + bad, x.union(bad, 0) + x.union(0, bad), -2);
            due("meet " + bad, x.meet(bad, 0) + x.meet(0, bad), -2);
            due("not " + bad, x.not(bad), -1);
            due("empty " + bad, x.empty(bad), false);
            due("within " + bad, x.within(bad, 0) || x.within(0, bad) || x.within(bad, bad), false);
            due("compare " + bad, x.compare(bad, 0) + x.compare(0, bad), -2);
            due("answers a " + bad, x.answers(bad, 0, 0), false);
            due("answers b " + bad, x.answers(1, bad, 0), false);
            due("answers c " + bad, x.answers(1, 0, bad), false);
            due("constant " + bad, x.constant(bad), -1);
            due("pair " + bad, x.pair(bad, 0) + x.pair(0, bad), -2);
            due("function " + bad, x.function(bad), -1);
            due("belongs " + bad, x.belongs(bad, 0) || x.belongs(0, bad), false);
            due("match v " + bad, x.match(bad, 0, 0, 0), -1);
            due("match a " + bad, x.match(0, bad, 0, 0), -1);
            due("match b " + bad, x.match(0, 0, bad, 0), -1);
            due("match c " + bad, x.match(0, 0, 0, bad), -1);
            due("sorts " + bad, x.sorts(bad), -1);
        }
        due("no type was made", x.types(), 2);
        due("no value was made", x.constant(5), 1);
    }
}
