import java.util.Arrays;

/**
 * Groups of at most 128 elements, given by generators of prime order over one another.
 * An element is the number of its normal word; ../shared/DOC.md has the terms and the promises.
 */
public final class CollectedGroup {
    public static final int NONE = -1;

    private static final int MOST_GENERATORS = 7;
    private static final int MOST_ELEMENTS = 128;
    private static final int PLACES = 4;
    private static final int BITS_OF_A_DIGIT = 4;
    private static final int DIGIT_MASK = 15;

    private final Collector group;
    private final Subgroup[] places;
    private final Subgroup whole;
    private final Subgroup term;
    private final Subgroup result;
    private final ElementSet kindred;
    private boolean relationsFixed;

    public CollectedGroup(int orders) {
        group = new Collector(primeDigits(orders));
        places = new Subgroup[PLACES];
        for (int s = 0; s < PLACES; s++) {
            places[s] = new Subgroup(group);
        }
        whole = new Subgroup(group);
        term = new Subgroup(group);
        result = new Subgroup(group);
        kindred = new ElementSet(group.elementCount());
        relationsFixed = false;
    }

    public int generators() {
        return group.letterCount();
    }

    public int size() {
        return group.elementCount();
    }

    public int generator(int i) {
        return group.isLetter(i) ? group.letter(i) : NONE;
    }

    public boolean power(int i, int w) {
        if (relationsFixed || !group.isWordBehind(i, w)) {
            return false;
        }
        group.setPower(i, w);
        return true;
    }

    public boolean conjugate(int i, int j, int w) {
        if (relationsFixed || !group.isLetter(j) || i >= j || !group.isWordBehind(i, w)) {
            return false;
        }
        group.setConjugate(i, j, w);
        return true;
    }

    public boolean fix() {
        if (!relationsFixed && group.build()) {
            relationsFixed = true;
            for (int s = 0; s < PLACES; s++) {
                places[s].reset();
            }
            fillWhole();
        }
        return relationsFixed;
    }

    public void release() {
        relationsFixed = false;
    }

    public boolean fixed() {
        return relationsFixed;
    }

    public int product(int a, int b) {
        return isElement(a) && isElement(b) ? group.multiply(a, b) : NONE;
    }

    public int times(int a, int k) {
        if (!isElement(a)) {
            return NONE;
        }
        return group.multiple(a, Math.floorMod(k, group.orderOf(a)));
    }

    public int conjugated(int a, int b) {
        return isElement(a) && isElement(b) ? group.conjugateOf(a, b) : NONE;
    }

    public int commutator(int a, int b) {
        return isElement(a) && isElement(b) ? group.commutatorOf(a, b) : NONE;
    }

    public int order(int a) {
        return isElement(a) ? group.orderOf(a) : NONE;
    }

    public int clear(int s) {
        if (!isPlace(s)) {
            return NONE;
        }
        places[s].reset();
        return places[s].amount();
    }

    public int join(int s, int a) {
        if (!isPlace(s) || !isElement(a)) {
            return NONE;
        }
        places[s].include(a);
        return places[s].amount();
    }

    public int spread(int s) {
        if (!isPlace(s)) {
            return NONE;
        }
        places[s].includeAllConjugates(whole);
        return places[s].amount();
    }

    public int commute(int s, int t, int u) {
        if (!isPlace(s) || !isPlace(t) || !isPlace(u)) {
            return NONE;
        }
        // Not straight into place u: it may be s or t, which are still read.
        result.becomeCommutators(places[s], places[t]);
        places[u].becomeCopy(result);
        return places[u].amount();
    }

    public int count(int s) {
        return isPlace(s) ? places[s].amount() : NONE;
    }

    public boolean has(int s, int a) {
        return isPlace(s) && isElement(a) && places[s].holds(a);
    }

    public int derived(int k) {
        return seriesAmount(k, term);
    }

    public int lower(int k) {
        return seriesAmount(k, whole);
    }

    public int centre() {
        if (!relationsFixed) {
            return NONE;
        }
        int central = 0;
        for (int a = 0; a < group.elementCount(); a++) {
            if (group.isCentral(a)) {
                central++;
            }
        }
        return central;
    }

    public int classes() {
        if (!relationsFixed) {
            return NONE;
        }
        int found = 0;
        kindred.empty();
        for (int a = 0; a < group.elementCount(); a++) {
            if (!kindred.holds(a)) {
                addClass(a);
                found++;
            }
        }
        return found;
    }

    public int kin(int a) {
        if (!isElement(a)) {
            return NONE;
        }
        kindred.empty();
        addClass(a);
        return kindred.amount();
    }

    public int head(int a) {
        if (!isElement(a)) {
            return NONE;
        }
        kindred.empty();
        addClass(a);
        return kindred.least();
    }

    private boolean isElement(int a) {
        return relationsFixed && a >= 0 && a < group.elementCount();
    }

    private boolean isPlace(int s) {
        return relationsFixed && s >= 0 && s < PLACES;
    }

    private void fillWhole() {
        whole.reset();
        for (int i = 0; i < group.letterCount(); i++) {
            whole.include(group.letter(i));
        }
    }

    // Every step of a series halves the term at least or leaves it, and all behind it, as it is:
    // after seven steps no further one changes anything.
    private int seriesAmount(int k, Subgroup partner) {
        if (!relationsFixed || k < 0) {
            return NONE;
        }
        term.becomeCopy(whole);
        for (int step = 0; step < k && step < MOST_GENERATORS; step++) {
            result.becomeCommutators(term, partner);
            term.becomeCopy(result);
        }
        return term.amount();
    }

    // Conjugates by the generators are enough: every element is a product of them.
    private void addClass(int a) {
        int from = kindred.amount();
        kindred.add(a);
        for (int k = from; k < group.elementCount() && k < kindred.amount(); k++) {
            for (int i = 0; i < group.letterCount(); i++) {
                kindred.add(group.conjugateOf(kindred.member(k), group.letter(i)));
            }
        }
    }

    private static int[] primeDigits(int orders) {
        int[] digits = new int[MOST_GENERATORS];
        int taken = 0;
        int elements = 1;
        for (int k = 0; k < MOST_GENERATORS; k++) {
            int digit = (orders >>> (BITS_OF_A_DIGIT * k)) & DIGIT_MASK;
            if (!isPrimeDigit(digit) || elements * digit > MOST_ELEMENTS) {
                break;
            }
            digits[k] = digit;
            elements *= digit;
            taken++;
        }
        return Arrays.copyOf(digits, taken);
    }

    private static boolean isPrimeDigit(int digit) {
        return digit == 2 || digit == 3 || digit == 5 || digit == 7 || digit == 11 || digit == 13;
    }

    /**
     * The relations and, once they are built, the products of normal words.
     *
     * The words behind g(i) are a group of their own, so the group is built from the last
     * generator to the first. Passing g(i) to the left over a word x turns x into another word
     * behind g(i); with these moves kept for every power of g(i), a product takes one look-up for
     * each generator instead of a collection letter by letter.
     */
    private static final class Collector {
        private final int letters;
        private final int elements;
        private final int[] orders;
        private final int[] weights;
        private final int[] powers;
        private final int[][] conjugates;
        // moved[i][f * t(i) + x] is the y for which x and then f times g(i) is f times g(i) and then y.
        private final int[][] moved;
        // The same with p(i) before it: what is left when the exponent of g(i) runs over r(i).
        private final int[][] carried;

        Collector(int[] primes) {
            letters = primes.length;
            orders = primes;
            weights = new int[letters];
            powers = new int[letters];
            conjugates = new int[letters][letters];
            moved = new int[letters][];
            carried = new int[letters][];
            int behind = 1;
            for (int i = letters - 1; i >= 0; i--) {
                weights[i] = behind;
                behind *= orders[i];
                moved[i] = new int[behind];
                carried[i] = new int[behind];
            }
            elements = behind;
            for (int i = 0; i < letters; i++) {
                for (int j = i + 1; j < letters; j++) {
                    conjugates[i][j] = weights[j];
                }
            }
        }

        int letterCount() {
            return letters;
        }

        int elementCount() {
            return elements;
        }

        boolean isLetter(int i) {
            return i >= 0 && i < letters;
        }

        int letter(int i) {
            return weights[i];
        }

        boolean isWordBehind(int i, int w) {
            return isLetter(i) && w >= 0 && w < weights[i];
        }

        void setPower(int i, int w) {
            powers[i] = w;
        }

        void setConjugate(int i, int j, int w) {
            conjugates[i][j] = w;
        }

        /** Makes the products ready; answers whether the relations are consistent. */
        boolean build() {
            for (int i = letters - 1; i >= 0; i--) {
                fillMoves(i);
                fillCarries(i);
                if (!moveKeepsProducts(i) || !moveKeepsPower(i) || !fullTurnIsPower(i)) {
                    return false;
                }
            }
            return true;
        }

        int multiply(int a, int b) {
            return multiplyFrom(0, a, b);
        }

        int inverseOf(int a) {
            int left = a;
            int inverse = 0;
            for (int i = 0; i < letters; i++) {
                int weight = weights[i];
                int exponent = left / weight;
                left %= weight;
                if (exponent > 0) {
                    int missing = (orders[i] - exponent) * weight;
                    inverse += missing;
                    left = carried[i][missing + left];
                }
            }
            return inverse;
        }

        int conjugateOf(int a, int b) {
            return multiply(inverseOf(b), multiply(a, b));
        }

        int commutatorOf(int a, int b) {
            return multiply(inverseOf(a), conjugateOf(a, b));
        }

        int orderOf(int a) {
            int order = 1;
            int word = a;
            while (word != 0 && order < elements) {
                word = multiply(word, a);
                order++;
            }
            return order;
        }

        int multiple(int a, int k) {
            int word = 0;
            for (int n = 0; n < k; n++) {
                word = multiply(word, a);
            }
            return word;
        }

        // What commutes with every generator commutes with their products.
        boolean isCentral(int a) {
            for (int i = 0; i < letters; i++) {
                if (multiply(a, weights[i]) != multiply(weights[i], a)) {
                    return false;
                }
            }
            return true;
        }

        // Only words in g(first) and behind: while the group is built there is nothing before them.
        private int multiplyFrom(int first, int a, int b) {
            int left = a;
            int right = b;
            int product = 0;
            for (int i = first; i < letters; i++) {
                int weight = weights[i];
                int rest = right % weight;
                int passed = right - rest + left % weight;
                int exponent = left / weight + right / weight;
                if (exponent >= orders[i]) {
                    exponent -= orders[i];
                    left = carried[i][passed];
                } else {
                    left = moved[i][passed];
                }
                right = rest;
                product += exponent * weight;
            }
            return product;
        }

        private void fillMoves(int i) {
            int weight = weights[i];
            int[] moves = moved[i];
            for (int x = 0; x < weight; x++) {
                moves[x] = x;
            }
            for (int x = 0; x < weight; x++) {
                moves[weight + x] = movedOnce(i, x);
            }
            for (int k = 2 * weight; k < moves.length; k++) {
                moves[k] = moves[weight + moves[k - weight]];
            }
        }

        // The first letter goes over to its conjugate; the shorter word behind it has been moved before.
        private int movedOnce(int i, int x) {
            int weight = weights[i];
            for (int j = i + 1; j < letters; j++) {
                if (x >= weights[j]) {
                    int rest = moved[i][weight + x - weights[j]];
                    return multiplyFrom(i + 1, conjugates[i][j], rest);
                }
            }
            return 0;
        }

        private void fillCarries(int i) {
            int[] carries = carried[i];
            for (int k = 0; k < carries.length; k++) {
                carries[k] = multiplyFrom(i + 1, powers[i], moved[i][k]);
            }
        }

        // A product of words behind g(i) has to move to the product of what they move to; it is
        // enough to look at products with one more letter.
        private boolean moveKeepsProducts(int i) {
            int weight = weights[i];
            int[] moves = moved[i];
            for (int x = 0; x < weight; x++) {
                for (int j = i + 1; j < letters; j++) {
                    int longer = multiplyFrom(i + 1, x, weights[j]);
                    int parts = multiplyFrom(i + 1, moves[weight + x], conjugates[i][j]);
                    if (moves[weight + longer] != parts) {
                        return false;
                    }
                }
            }
            return true;
        }

        // p(i) is r(i) times g(i), so g(i) has to pass it unchanged.
        private boolean moveKeepsPower(int i) {
            return moved[i][weights[i] + powers[i]] == powers[i];
        }

        // Moving r(i) times has to be what moving by p(i) is; this also makes every move one to one.
        private boolean fullTurnIsPower(int i) {
            int weight = weights[i];
            int[] moves = moved[i];
            int lastRow = (orders[i] - 1) * weight;
            for (int x = 0; x < weight; x++) {
                int turned = moves[weight + moves[lastRow + x]];
                if (multiplyFrom(i + 1, powers[i], turned) != multiplyFrom(i + 1, x, powers[i])) {
                    return false;
                }
            }
            return true;
        }
    }

    /** Some elements, in the order in which they came. */
    private static final class ElementSet {
        private final boolean[] marks;
        private final int[] members;
        private int filled;

        ElementSet(int limit) {
            marks = new boolean[limit];
            members = new int[limit];
            filled = 0;
        }

        void empty() {
            for (int k = 0; k < filled; k++) {
                marks[members[k]] = false;
            }
            filled = 0;
        }

        void add(int a) {
            if (!marks[a]) {
                marks[a] = true;
                members[filled] = a;
                filled++;
            }
        }

        boolean holds(int a) {
            return marks[a];
        }

        int amount() {
            return filled;
        }

        int member(int k) {
            return members[k];
        }

        int least() {
            for (int a = 0; a < marks.length; a++) {
                if (marks[a]) {
                    return a;
                }
            }
            return NONE;
        }
    }

    /** A subgroup: its elements, and a few of them that generate it. */
    private static final class Subgroup {
        private final Collector group;
        private final ElementSet elements;
        // Each one made the subgroup at least twice as large, so there are never more than seven.
        private final int[] basis;
        private int basisLength;

        Subgroup(Collector group) {
            this.group = group;
            elements = new ElementSet(group.elementCount());
            basis = new int[MOST_GENERATORS];
            basisLength = 0;
            elements.add(0);
        }

        int amount() {
            return elements.amount();
        }

        boolean holds(int a) {
            return elements.holds(a);
        }

        void reset() {
            elements.empty();
            elements.add(0);
            basisLength = 0;
        }

        void include(int a) {
            if (elements.holds(a) || basisLength >= MOST_GENERATORS) {
                return;
            }
            basis[basisLength] = a;
            basisLength++;
            // No inverses are needed: in a finite group they are products too.
            for (int k = 0; k < group.elementCount() && k < elements.amount(); k++) {
                for (int i = 0; i < basisLength; i++) {
                    elements.add(group.multiply(elements.member(k), basis[i]));
                }
            }
        }

        void includeAllConjugates(Subgroup by) {
            for (int k = 0; k < MOST_GENERATORS && k < basisLength; k++) {
                includeConjugates(basis[k], by);
            }
        }

        // The commutators of what generates s and t, and then their conjugates by s and t, are
        // enough: where they are 0, s and t commute letter by letter.
        void becomeCommutators(Subgroup s, Subgroup t) {
            reset();
            for (int i = 0; i < s.basisLength; i++) {
                for (int j = 0; j < t.basisLength; j++) {
                    include(group.commutatorOf(s.basis[i], t.basis[j]));
                }
            }
            for (int k = 0; k < MOST_GENERATORS && k < basisLength; k++) {
                includeConjugates(basis[k], s);
                includeConjugates(basis[k], t);
            }
        }

        void becomeCopy(Subgroup other) {
            elements.empty();
            for (int k = 0; k < other.elements.amount(); k++) {
                elements.add(other.elements.member(k));
            }
            System.arraycopy(other.basis, 0, basis, 0, other.basisLength);
            basisLength = other.basisLength;
        }

        private void includeConjugates(int a, Subgroup by) {
            for (int i = 0; i < by.basisLength; i++) {
                include(group.conjugateOf(a, by.basis[i]));
            }
        }
    }
}
