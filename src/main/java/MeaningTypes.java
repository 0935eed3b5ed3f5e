/**
 * Types that mean sets of constants, pairs and functions.
 *
 * <p>Elements are endless, but two of them that lie in the same types are alike for every question
 * of the face. So no element is ever looked at: the object keeps the PROFILES that elements have. A
 * profile is a number whose bit t is 1 if the element lies in type t. One type lies in another one
 * if no element's profile has the bit of the one without the bit of the other.
 */
public final class MeaningTypes {

    private static final int REFUSED = -1;
    private static final int NOT_THERE = -1;

    private static final int MOST_TYPES = 12;
    private static final int MOST_DEPTH = 5;
    private static final int MOST_VALUES = 20;
    private static final int MOST_LEAVES = 4;
    private static final int CONSTANT_COUNT = 6;
    private static final int GREATEST_MASK = (1 << CONSTANT_COUNT) - 1;

    /** One more than the document's limit: answers() asks about an arrow that is no type. */
    private static final int TYPE_ROOM = MOST_TYPES + 1;

    private static final int KIND_CONSTANTS = 0;
    private static final int KIND_PRODUCT = 1;
    private static final int KIND_ARROW = 2;
    private static final int KIND_UNION = 3;
    private static final int KIND_INTERSECTION = 4;
    private static final int KIND_COMPLEMENT = 5;
    private static final int KIND_ANY = 6;

    private static final int VALUE_CONSTANT = 0;
    private static final int VALUE_PAIR = 1;
    private static final int VALUE_FUNCTION = 2;

    private static final int SAME = 3;
    private static final int FIRST_IN_SECOND = 1;
    private static final int SECOND_IN_FIRST = 2;
    private static final int APART = 4;
    private static final int CROSSING = 0;

    private final Meanings meanings;
    private final ValueTable values;

    public MeaningTypes() {
        meanings = new Meanings();
        values = new ValueTable();
    }

    public int constants(int mask) {
        if (mask < 0 || mask > GREATEST_MASK || isFull()) {
            return REFUSED;
        }
        return meanings.add(KIND_CONSTANTS, mask, mask);
    }

    public int product(int a, int b) {
        return makeFromParts(KIND_PRODUCT, a, b);
    }

    public int arrow(int a, int b) {
        return makeFromParts(KIND_ARROW, a, b);
    }

    public int union(int a, int b) {
        return makeFromParts(KIND_UNION, a, b);
    }

    public int meet(int a, int b) {
        return makeFromParts(KIND_INTERSECTION, a, b);
    }

    public int not(int a) {
        return makeFromParts(KIND_COMPLEMENT, a, a);
    }

    public int any() {
        return isFull() ? REFUSED : meanings.add(KIND_ANY, 0, 0);
    }

    public int types() {
        return meanings.table.count;
    }

    public boolean empty(int a) {
        return hasType(a) && !meanings.someLiesIn(1 << a, 0);
    }

    public boolean within(int a, int b) {
        return hasType(a) && hasType(b) && meanings.liesIn(a, b);
    }

    public int compare(int a, int b) {
        if (!hasType(a) || !hasType(b)) {
            return NOT_THERE;
        }
        boolean forth = meanings.liesIn(a, b);
        boolean back = meanings.liesIn(b, a);
        if (forth) {
            return back ? SAME : FIRST_IN_SECOND;
        }
        if (back) {
            return SECOND_IN_FIRST;
        }
        return meanings.someLiesIn((1 << a) | (1 << b), 0) ? CROSSING : APART;
    }

    public boolean answers(int a, int b, int c) {
        if (!hasType(a) || !hasType(b) || !hasType(c)) {
            return false;
        }
        if (meanings.table.depthOf(KIND_ARROW, b, c) > MOST_DEPTH) {
            return false;
        }
        int passing = meanings.add(KIND_ARROW, b, c);
        boolean inside = meanings.liesIn(a, passing);
        meanings.table.keep(passing);
        return inside;
    }

    public int constant(int c) {
        if (c < 0 || c >= CONSTANT_COUNT) {
            return REFUSED;
        }
        return makeValue(VALUE_CONSTANT, c, c, 1);
    }

    public int pair(int v, int w) {
        if (!values.has(v) || !values.has(w)) {
            return REFUSED;
        }
        return makeValue(VALUE_PAIR, v, w, values.leaves[v] + values.leaves[w]);
    }

    public int function(int a) {
        if (!hasType(a) || !meanings.table.isInterface[a]) {
            return REFUSED;
        }
        return makeValue(VALUE_FUNCTION, a, a, 1);
    }

    public boolean belongs(int v, int a) {
        return values.has(v) && hasType(a) && holds(values.typesOf(v, meanings), a);
    }

    public int match(int v, int a, int b, int c) {
        if (!values.has(v) || !hasType(a) || !hasType(b) || !hasType(c)) {
            return NOT_THERE;
        }
        int owners = values.typesOf(v, meanings);
        if (holds(owners, a)) {
            return 1;
        }
        if (holds(owners, b)) {
            return 2;
        }
        return holds(owners, c) ? 3 : 0;
    }

    public int sorts(int v) {
        if (!values.has(v)) {
            return NOT_THERE;
        }
        return Integer.bitCount(values.typesOf(v, meanings));
    }

    public int cut(int n) {
        values.count = 0;
        meanings.table.keep(Math.max(n, 0));
        return meanings.table.count;
    }

    private boolean hasType(int t) {
        return t >= 0 && t < meanings.table.count;
    }

    private boolean isFull() {
        return meanings.table.count >= MOST_TYPES;
    }

    private int makeFromParts(int kind, int a, int b) {
        if (!hasType(a) || !hasType(b) || isFull()) {
            return REFUSED;
        }
        if (meanings.table.depthOf(kind, a, b) > MOST_DEPTH) {
            return REFUSED;
        }
        return meanings.add(kind, a, b);
    }

    private int makeValue(int kind, int first, int second, int leaves) {
        if (values.count >= MOST_VALUES || leaves > MOST_LEAVES) {
            return REFUSED;
        }
        return values.add(kind, first, second, leaves);
    }

    private static boolean holds(int profile, int t) {
        return ((profile >> t) & 1) != 0;
    }

    /** A set of profiles, or of other rows of one bit for each type. */
    private static final class ProfileSet {

        private final long[] words;
        private int usedWords;

        /** Above every member; what nextFrom answers when there is none any more. */
        private int end;

        ProfileSet(int mostBits) {
            words = new long[wordsFor(mostBits)];
        }

        private static int wordsFor(int bits) {
            return ((1 << bits) + 63) >> 6;
        }

        /** Takes all members away; those that come have the given number of bits. */
        void restart(int bits) {
            usedWords = Math.min(wordsFor(bits), words.length);
            end = usedWords << 6;
            for (int w = 0; w < usedWords; w++) {
                words[w] = 0L;
            }
        }

        void add(int member) {
            if (member >= 0 && member < end) {
                words[member >> 6] |= 1L << (member & 63);
            }
        }

        boolean has(int member) {
            return member >= 0 && member < end && ((words[member >> 6] >> (member & 63)) & 1L) != 0L;
        }

        /** The least member that is not below start, which is not below 0. */
        int nextFrom(int start) {
            int startWord = start >> 6;
            for (int w = startWord; w < usedWords; w++) {
                long rest = w == startWord ? words[w] & (-1L << (start & 63)) : words[w];
                if (rest != 0L) {
                    // The zeros below the lowest one of rest, turned into ones and counted.
                    return (w << 6) + Long.bitCount((rest - 1L) & ~rest);
                }
            }
            return end;
        }
    }

    /** How the types were made. */
    private static final class TypeTable {

        private final int[] kind = new int[TYPE_ROOM];

        /** The mask of a type of constants, else the first part. */
        private final int[] first = new int[TYPE_ROOM];

        private final int[] second = new int[TYPE_ROOM];
        private final int[] depth = new int[TYPE_ROOM];
        private final boolean[] isInterface = new boolean[TYPE_ROOM];
        private int count;

        int depthOf(int newKind, int a, int b) {
            switch (newKind) {
                case KIND_CONSTANTS:
                case KIND_ANY:
                    return 0;
                case KIND_PRODUCT:
                case KIND_ARROW:
                    return 1 + Math.max(depth[a], depth[b]);
                default:
                    return Math.max(depth[a], depth[b]);
            }
        }

        private boolean makesInterface(int newKind, int a, int b) {
            if (newKind == KIND_INTERSECTION) {
                return isInterface[a] && isInterface[b];
            }
            return newKind == KIND_ARROW;
        }

        int add(int newKind, int a, int b) {
            int t = count;
            kind[t] = newKind;
            first[t] = a;
            second[t] = b;
            depth[t] = depthOf(newKind, a, b);
            isInterface[t] = makesInterface(newKind, a, b);
            count++;
            return t;
        }

        void keep(int n) {
            count = Math.min(count, n);
        }

        int allOfKind(int wanted) {
            int found = 0;
            for (int t = 0; t < count; t++) {
                if (kind[t] == wanted) {
                    found |= 1 << t;
                }
            }
            return found;
        }

        /** The types of a kind whose part, first or second, has the element of this profile in it. */
        int partHolds(int wanted, int[] parts, int profile) {
            int found = 0;
            for (int t = 0; t < count; t++) {
                if (kind[t] == wanted && holds(profile, parts[t])) {
                    found |= 1 << t;
                }
            }
            return found;
        }

        int profileOfConstant(int c) {
            int roots = 0;
            for (int t = 0; t < count; t++) {
                if (kind[t] == KIND_CONSTANTS && holds(first[t], c)) {
                    roots |= 1 << t;
                }
            }
            return profileFrom(roots);
        }

        /** The profile of an element for which roots tells all types of constants, products, arrows. */
        int profileFrom(int roots) {
            int profile = roots;
            // Parts have smaller numbers than what is made of them: one way up settles all.
            for (int t = 0; t < count; t++) {
                if (followsFromParts(t, profile)) {
                    profile |= 1 << t;
                }
            }
            return profile;
        }

        private boolean followsFromParts(int t, int profile) {
            switch (kind[t]) {
                case KIND_UNION:
                    return holds(profile, first[t]) || holds(profile, second[t]);
                case KIND_INTERSECTION:
                    return holds(profile, first[t]) && holds(profile, second[t]);
                case KIND_COMPLEMENT:
                    return !holds(profile, first[t]);
                case KIND_ANY:
                    return true;
                default:
                    return false;
            }
        }
    }

    /** The types and the profiles that elements have. */
    private static final class Meanings {

        private final TypeTable table = new TypeTable();

        /** In row n the profiles for the first n types, so that a cut leaves the lower rows good. */
        private final ProfileSet[] rows = new ProfileSet[TYPE_ROOM + 1];

        private final ProfileSet starts = new ProfileSet(TYPE_ROOM);
        private final ProfileSet ends = new ProfileSet(TYPE_ROOM);
        private final ProfileSet crossed = new ProfileSet(TYPE_ROOM);
        private final ProfileSet broken = new ProfileSet(TYPE_ROOM);

        Meanings() {
            for (int n = 0; n <= TYPE_ROOM; n++) {
                rows[n] = new ProfileSet(n);
            }
            rows[0].restart(0);
            rows[0].add(0);
        }

        int add(int kind, int first, int second) {
            int t = table.add(kind, first, second);
            // Parts of the newest type are older, so the row before tells enough of an element's parts.
            ProfileSet parts = rows[t];
            ProfileSet row = rows[t + 1];
            row.restart(table.count);
            for (int c = 0; c < CONSTANT_COUNT; c++) {
                row.add(table.profileOfConstant(c));
            }
            addPairs(parts, parts, row);
            addFunctions(parts, row);
            return t;
        }

        /** The profiles of all pairs of an element with a profile of firsts and one of seconds. */
        void addPairs(ProfileSet firsts, ProfileSet seconds, ProfileSet into) {
            starts.restart(table.count);
            for (int p = firsts.nextFrom(0); p < firsts.end; p = firsts.nextFrom(p + 1)) {
                starts.add(table.partHolds(KIND_PRODUCT, table.first, p));
            }
            ends.restart(table.count);
            for (int p = seconds.nextFrom(0); p < seconds.end; p = seconds.nextFrom(p + 1)) {
                ends.add(table.partHolds(KIND_PRODUCT, table.second, p));
            }
            crossStartsWithEnds();
            for (int roots = crossed.nextFrom(0); roots < crossed.end; roots = crossed.nextFrom(roots + 1)) {
                into.add(table.profileFrom(roots));
            }
        }

        private void addFunctions(ProfileSet parts, ProfileSet into) {
            int arrows = table.allOfKind(KIND_ARROW);
            findStepsThatBreak(arrows, parts);
            uniteSteps();
            for (int b = broken.nextFrom(0); b < broken.end; b = broken.nextFrom(b + 1)) {
                into.add(table.profileFrom(arrows & ~b));
            }
        }

        /** Sets crossed to the sets of arrows that a single step can keep its function out of. */
        private void findStepsThatBreak(int arrows, ProfileSet parts) {
            starts.restart(table.count);
            ends.restart(table.count);
            // A step to failure misses the second part of every arrow.
            ends.add(arrows);
            for (int p = parts.nextFrom(0); p < parts.end; p = parts.nextFrom(p + 1)) {
                starts.add(table.partHolds(KIND_ARROW, table.first, p));
                ends.add(arrows & ~table.partHolds(KIND_ARROW, table.second, p));
            }
            crossStartsWithEnds();
        }

        /** Sets broken to the sets of arrows that the steps of crossed, taken together, break. */
        private void uniteSteps() {
            broken.restart(table.count);
            broken.add(0);
            for (int step = crossed.nextFrom(0); step < crossed.end; step = crossed.nextFrom(step + 1)) {
                // A set that unions of earlier steps give brings nothing new.
                if (!broken.has(step)) {
                    addStep(step);
                }
            }
        }

        private void addStep(int step) {
            // Walking over members that this walk adds is harmless: they have the step in them.
            for (int b = broken.nextFrom(0); b < broken.end; b = broken.nextFrom(b + 1)) {
                broken.add(b | step);
            }
        }

        private void crossStartsWithEnds() {
            crossed.restart(table.count);
            for (int s = starts.nextFrom(0); s < starts.end; s = starts.nextFrom(s + 1)) {
                for (int e = ends.nextFrom(0); e < ends.end; e = ends.nextFrom(e + 1)) {
                    crossed.add(s & e);
                }
            }
        }

        /** The profiles of all elements of type t. */
        void addMembers(int t, ProfileSet into) {
            ProfileSet row = rows[table.count];
            for (int p = row.nextFrom(0); p < row.end; p = row.nextFrom(p + 1)) {
                if (holds(p, t)) {
                    into.add(p);
                }
            }
        }

        boolean liesIn(int a, int b) {
            return !someLiesIn(1 << a, 1 << b);
        }

        /** Whether some element lies in all types of inside and in none of outside. */
        boolean someLiesIn(int inside, int outside) {
            ProfileSet row = rows[table.count];
            for (int p = row.nextFrom(0); p < row.end; p = row.nextFrom(p + 1)) {
                if ((p & inside) == inside && (p & outside) == 0) {
                    return true;
                }
            }
            return false;
        }
    }

    /** The values; what their sorts mean is asked anew each time, as types may have come. */
    private static final class ValueTable {

        /** So deep can pairs stand in one another with the leaves that a value may have. */
        private static final int MOST_NESTED = MOST_LEAVES - 1;

        private final int[] kind = new int[MOST_VALUES];

        /** The constant, the interface, or the pair's first value. */
        private final int[] first = new int[MOST_VALUES];

        private final int[] second = new int[MOST_VALUES];
        private final int[] leaves = new int[MOST_VALUES];
        private int count;

        private final ProfileSet whole = new ProfileSet(MOST_TYPES);
        private final ProfileSet[] firsts = new ProfileSet[MOST_NESTED];
        private final ProfileSet[] seconds = new ProfileSet[MOST_NESTED];

        ValueTable() {
            for (int level = 0; level < MOST_NESTED; level++) {
                firsts[level] = new ProfileSet(MOST_TYPES);
                seconds[level] = new ProfileSet(MOST_TYPES);
            }
        }

        boolean has(int v) {
            return v >= 0 && v < count;
        }

        int add(int newKind, int a, int b, int newLeaves) {
            int v = count;
            kind[v] = newKind;
            first[v] = a;
            second[v] = b;
            leaves[v] = newLeaves;
            count++;
            return v;
        }

        /** The types to which the value belongs, a bit for each. */
        int typesOf(int v, Meanings meanings) {
            fill(whole, v, meanings, 0);
            int shared = (1 << meanings.table.count) - 1;
            for (int p = whole.nextFrom(0); p < whole.end; p = whole.nextFrom(p + 1)) {
                shared &= p;
            }
            return shared;
        }

        /** Sets the given set to the profiles of all elements of the value's sort. */
        private void fill(ProfileSet sort, int v, Meanings meanings, int level) {
            sort.restart(meanings.table.count);
            if (kind[v] == VALUE_CONSTANT) {
                sort.add(meanings.table.profileOfConstant(first[v]));
            } else if (kind[v] == VALUE_FUNCTION) {
                meanings.addMembers(first[v], sort);
            } else if (level < MOST_NESTED) {
                fill(firsts[level], first[v], meanings, level + 1);
                fill(seconds[level], second[v], meanings, level + 1);
                meanings.addPairs(firsts[level], seconds[level], sort);
            }
        }
    }
}
