import java.util.Arrays;

/** The whole object as the document tells it, slowly: NaiveGroup's words, with states and refusals. */
final class Model {
    private static final int NONE = -1;
    private static final String PRIME_DIGITS = "2357bd";

    final NaiveGroup naive;
    private final boolean[][] places = new boolean[4][];
    private boolean fixed = false;

    Model(int orders) {
        naive = new NaiveGroup(ordersOf(orders));
    }

    private static int[] ordersOf(int orders) {
        String digits = new StringBuilder(Integer.toHexString(orders)).reverse().toString();
        int[] taken = {};
        int product = 1;
        for (char digit : digits.toCharArray()) {
            int order = Character.digit(digit, 16);
            product *= order;
            if (taken.length == 7 || PRIME_DIGITS.indexOf(digit) < 0 || product > 128) {
                return taken;
            }
            taken = Arrays.copyOf(taken, taken.length + 1);
            taken[taken.length - 1] = order;
        }
        return taken;
    }

    int generators() {
        return naive.orders.length;
    }

    int size() {
        return naive.size;
    }

    private boolean isGenerator(int i) {
        return i >= 0 && i < naive.orders.length;
    }

    int generator(int i) {
        return isGenerator(i) ? naive.weights[i] : NONE;
    }

    boolean power(int i, int w) {
        boolean taken = !fixed && isGenerator(i) && w >= 0 && w < naive.weights[i];
        if (taken) {
            naive.powers[i] = w;
        }
        return taken;
    }

    boolean conjugate(int i, int j, int w) {
        boolean taken = !fixed && isGenerator(i) && isGenerator(j) && i < j && w >= 0 && w < naive.weights[i];
        if (taken) {
            naive.conjugates[i][j] = w;
        }
        return taken;
    }

    boolean fix() {
        if (!fixed && naive.consistent()) {
            fixed = true;
            for (int s = 0; s < 4; s++) {
                places[s] = naive.trivial();
            }
        }
        return fixed;
    }

    void release() {
        fixed = false;
    }

    boolean fixed() {
        return fixed;
    }

    private boolean isElement(int a) {
        return fixed && a >= 0 && a < naive.size;
    }

    private boolean isPlace(int s) {
        return fixed && s >= 0 && s <= 3;
    }

    int product(int a, int b) {
        return isElement(a) && isElement(b) ? naive.product(a, b) : NONE;
    }

    int times(int a, int k) {
        return isElement(a) ? naive.times(a, k) : NONE;
    }

    int conjugated(int a, int b) {
        return isElement(a) && isElement(b) ? naive.conjugated(a, b) : NONE;
    }

    int commutator(int a, int b) {
        return isElement(a) && isElement(b) ? naive.commutator(a, b) : NONE;
    }

    int order(int a) {
        return isElement(a) ? naive.order(a) : NONE;
    }

    private int put(int s, boolean[] subgroup) {
        places[s] = subgroup;
        return NaiveGroup.count(subgroup);
    }

    int clear(int s) {
        return isPlace(s) ? put(s, naive.trivial()) : NONE;
    }

    int join(int s, int a) {
        return isPlace(s) && isElement(a) ? put(s, naive.joined(places[s], a)) : NONE;
    }

    int spread(int s) {
        return isPlace(s) ? put(s, naive.spread(places[s])) : NONE;
    }

    int commute(int s, int t, int u) {
        return isPlace(s) && isPlace(t) && isPlace(u) ? put(u, naive.commutators(places[s], places[t])) : NONE;
    }

    int count(int s) {
        return isPlace(s) ? NaiveGroup.count(places[s]) : NONE;
    }

    boolean has(int s, int a) {
        return isPlace(s) && isElement(a) && places[s][a];
    }

    int derived(int k) {
        return series(k, false);
    }

    int lower(int k) {
        return series(k, true);
    }

    private int series(int k, boolean withWhole) {
        if (!fixed || k < 0) {
            return NONE;
        }
        boolean[] term = naive.whole();
        for (int step = 0; step < k; step++) {
            boolean[] next = naive.commutators(term, withWhole ? naive.whole() : term);
            if (Arrays.equals(next, term)) {
                break;
            }
            term = next;
        }
        return NaiveGroup.count(term);
    }

    int centre() {
        int central = 0;
        for (int a = 0; a < naive.size && fixed; a++) {
            central += kin(a) == 1 ? 1 : 0;
        }
        return fixed ? central : NONE;
    }

    int classes() {
        int heads = 0;
        for (int a = 0; a < naive.size && fixed; a++) {
            heads += head(a) == a ? 1 : 0;
        }
        return fixed ? heads : NONE;
    }

    int kin(int a) {
        return isElement(a) ? NaiveGroup.count(naive.classOf(a)) : NONE;
    }

    int head(int a) {
        return isElement(a) ? NaiveGroup.least(naive.classOf(a)) : NONE;
    }
}
