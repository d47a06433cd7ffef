/** Many groups, made by a fixed row of numbers, with all answers held against NaiveGroup's. */
public final class AgainstNaiveTest {
    /** The document promises nothing after 512 calls, so an object is left before that. */
    private static final int CALLS_OF_AN_OBJECT = 450;

    private static final int[][] ORDERS = {
        {2}, {13}, {2, 2}, {2, 3}, {3, 2}, {2, 2, 2}, {3, 3}, {2, 5}, {5, 2}, {2, 7}, {3, 7}, {5, 11},
        {3, 13}, {2, 2, 3}, {2, 3, 2}, {3, 2, 2}, {2, 2, 2, 2}, {2, 3, 3}, {3, 2, 3}, {2, 3, 2, 2},
        {3, 2, 2, 2}, {2, 2, 5}, {3, 3, 3}, {2, 2, 2, 2, 2}, {2, 3, 7}, {7, 2, 2, 2}, {2, 2, 3, 3},
        {5, 5, 5}, {3, 2, 2, 2, 2}, {2, 3, 2, 2, 2}, {2, 2, 2, 2, 2, 2}, {2, 2, 2, 2, 2, 2, 2},
        {5, 2, 2, 2, 2}, {11, 11}, {2, 5, 11}, {3, 3, 13}, {2, 2, 2, 3, 3}, {2, 3, 3, 3, 2}
    };

    /**
     * Groups that are seldom met by chance: the orders, {i, p(i)} and {i, j, c(i, j)}. In their order
     * S4, SL(2, 3), 2^3:7, 2^4:5, 3^2:4, 3^2:Q8, 5^2:3, 11:5, 13:6.
     */
    private static final int[][][] KNOWN = {
        {{2, 3, 2, 2}, {1, 2, 1}, {1, 3, 3}, {0, 1, 8}, {0, 2, 1}, {0, 3, 2}},
        {{3, 2, 2, 2}, {1, 1}, {2, 1}, {1, 2, 3}, {0, 1, 2}, {0, 2, 6}},
        {{7, 2, 2, 2}, {0, 1, 2}, {0, 2, 1}, {0, 3, 6}},
        {{5, 2, 2, 2, 2}, {0, 1, 4}, {0, 2, 2}, {0, 3, 1}, {0, 4, 15}},
        {{2, 2, 3, 3}, {0, 9}, {1, 2, 6}, {1, 3, 2}, {0, 2, 1}, {0, 3, 6}},
        {{2, 2, 2, 3, 3}, {0, 9}, {1, 9}, {2, 3, 6}, {2, 4, 2}, {1, 3, 1}, {1, 4, 6}, {0, 3, 4},
            {0, 4, 5}, {0, 1, 27}},
        {{3, 5, 5}, {0, 1, 1}, {0, 2, 24}},
        {{5, 11}, {0, 1, 3}},
        {{2, 3, 13}, {1, 2, 3}, {0, 2, 12}},
    };

    /** Few enough relations to look at all of them, the greatest and least words among them. */
    private static final int[][] SMALL_ORDERS = {
        {2, 2}, {2, 3}, {3, 2}, {3, 3}, {2, 5}, {5, 2}, {2, 13}, {3, 7}, {2, 2, 2}, {3, 2, 2}, {2, 3, 2}, {2, 2, 3}
    };

    private static final Draw DRAW = new Draw(20261115L);
    private static CollectedGroup group;
    private static int callsLeft;
    /** What an object is fixed to before it is released and given the relations to be looked at. */
    private static NaiveGroup earlier;

    public static void main(String[] args) {
        for (int[][] known : KNOWN) {
            earlier = null;
            knownRelations(known);
        }
        for (int[] orders : ORDERS) {
            earlier = null;
            for (int k = 0; k < 25; k++) {
                anyRelations(orders);
            }
            for (int k = 0; k < 4; k++) {
                builtRelations(orders);
            }
        }
        earlier = null;
        for (int[] orders : SMALL_ORDERS) {
            allRelations(new NaiveGroup(orders), 0, 0);
        }
        Check.end();
    }

    /** Every word for the power of g(i) (j is i) and for its conjugates from g(j) on, and so for all behind it. */
    private static void allRelations(NaiveGroup naive, int i, int j) {
        if (i == naive.orders.length) {
            CollectedGroup x = withRelations(naive);
            Check.due(named(naive, "fix()"), x.fix(), naive.consistent());
            return;
        }
        boolean lastOfRow = j + 1 == naive.orders.length;
        for (int w = 0; w < naive.weights[i]; w++) {
            if (i == j) {
                naive.powers[i] = w;
            } else {
                naive.conjugates[i][j] = w;
            }
            allRelations(naive, lastOfRow ? i + 1 : i, lastOfRow ? i + 1 : j + 1);
        }
    }

    /** Mostly not consistent: what fix answers is what is looked at. */
    private static void anyRelations(int[] orders) {
        NaiveGroup naive = new NaiveGroup(orders);
        for (int changes = 1 + DRAW.below(3); changes > 0; changes--) {
            int i = DRAW.below(orders.length);
            if (DRAW.below(3) == 0) {
                naive.powers[i] = DRAW.below(naive.weights[i]);
            } else if (i + 1 < orders.length) {
                int j = i + 1 + DRAW.below(orders.length - i - 1);
                naive.conjugates[i][j] = DRAW.below(naive.weights[i]);
            }
        }
        boolean consistent = naive.consistent();
        group = withRelations(naive);
        Check.due(named(naive, "fix()"), group.fix(), consistent);
        Check.due(named(naive, "fixed()"), group.fixed(), consistent);
        if (consistent) {
            lookAtSome(naive);
        }
    }

    private static void builtRelations(int[] orders) {
        NaiveGroup naive = new NaiveGroup(orders);
        DRAW.consistentRelations(naive);
        lookAt(naive);
        earlier = naive;
    }

    private static void knownRelations(int[][] known) {
        NaiveGroup naive = new NaiveGroup(known[0]);
        for (int k = 1; k < known.length; k++) {
            int[] relation = known[k];
            if (relation.length == 2) {
                naive.powers[relation[0]] = relation[1];
            } else {
                naive.conjugates[relation[0]][relation[1]] = relation[2];
            }
        }
        lookAt(naive);
    }

    private static void lookAt(NaiveGroup naive) {
        Check.due(named(naive, "consistent"), naive.consistent(), true);
        lookAtSome(naive);
        lookAtPairs(naive);
        lookAtSubgroups(naive);
        lookAtAll(naive);
    }

    private static CollectedGroup withRelations(NaiveGroup naive) {
        CollectedGroup made = new CollectedGroup(naive.digits());
        callsLeft = CALLS_OF_AN_OBJECT;
        if (earlier != null) {
            setRelations(made, earlier);
            Check.due(named(earlier, "fix()"), made.fix(), true);
            Check.due(named(earlier, "join"), made.join(3, 0), 1);
            made.release();
        }
        setRelations(made, naive);
        return made;
    }

    private static void setRelations(CollectedGroup made, NaiveGroup naive) {
        for (int i = 0; i < naive.orders.length; i++) {
            Check.due(named(naive, "power"), made.power(i, naive.powers[i]), true);
            for (int j = i + 1; j < naive.orders.length; j++) {
                Check.due(named(naive, "conjugate"), made.conjugate(i, j, naive.conjugates[i][j]), true);
            }
        }
    }

    private static void renew(NaiveGroup naive) {
        group = withRelations(naive);
        Check.due(named(naive, "fix()"), group.fix(), true);
    }

    private static void call(NaiveGroup naive) {
        callsLeft--;
        if (callsLeft < 40) {
            renew(naive);
        }
    }

    private static String named(NaiveGroup naive, String call) {
        return java.util.Arrays.toString(naive.orders) + java.util.Arrays.toString(naive.powers)
            + java.util.Arrays.deepToString(naive.conjugates) + ": " + call;
    }

    private static void lookAtSome(NaiveGroup naive) {
        renew(naive);
        Check.due(named(naive, "size()"), group.size(), naive.size);
        for (int k = 0; k < 40; k++) {
            int a = DRAW.below(naive.size);
            int b = DRAW.below(naive.size);
            int n = DRAW.below(4) == 0 ? DRAW.below(1 << 30) * 4 : DRAW.below(300) - 150;
            Check.due(named(naive, "product"), group.product(a, b), naive.product(a, b));
            Check.due(named(naive, "times"), group.times(a, n), naive.times(a, n));
            Check.due(named(naive, "conjugated"), group.conjugated(a, b), naive.conjugated(a, b));
            Check.due(named(naive, "commutator"), group.commutator(a, b), naive.commutator(a, b));
        }
        lookAtSeries(naive);
    }

    private static void lookAtSeries(NaiveGroup naive) {
        boolean[] derived = naive.whole();
        boolean[] lower = naive.whole();
        for (int k = 0; k < 9; k++) {
            Check.due(named(naive, "derived"), group.derived(k), NaiveGroup.count(derived));
            Check.due(named(naive, "lower"), group.lower(k), NaiveGroup.count(lower));
            derived = naive.commutators(derived, derived);
            lower = naive.commutators(lower, naive.whole());
        }
    }

    /** Commutators of small subgroups, where those of what generates them are not yet all. */
    private static void lookAtPairs(NaiveGroup naive) {
        renew(naive);
        for (int k = 0; k < 40; k++) {
            int a = DRAW.below(naive.size);
            int b = DRAW.below(naive.size);
            boolean[] s = naive.joined(naive.trivial(), a);
            boolean[] t = naive.joined(naive.trivial(), b);
            group.clear(0);
            group.clear(1);
            Check.due(named(naive, "join"), group.join(0, a), NaiveGroup.count(s));
            Check.due(named(naive, "join"), group.join(1, b), NaiveGroup.count(t));
            int want = NaiveGroup.count(naive.commutators(s, t));
            Check.due(named(naive, "commute"), group.commute(0, 1, 2), want);
            Check.due(named(naive, "spread"), group.spread(0), NaiveGroup.count(naive.spread(s)));
        }
    }

    private static void lookAtSubgroups(NaiveGroup naive) {
        renew(naive);
        boolean[][] places = {naive.trivial(), naive.trivial(), naive.trivial(), naive.trivial()};
        for (int step = 0; step < 40; step++) {
            int s = DRAW.below(4);
            int t = DRAW.below(4);
            int u = DRAW.below(4);
            int a = DRAW.below(naive.size);
            int got;
            switch (DRAW.below(6)) {
                case 0 -> {
                    places[u] = naive.trivial();
                    got = group.clear(u);
                }
                case 1, 2 -> {
                    places[u] = naive.joined(places[u], a);
                    got = group.join(u, a);
                }
                case 3 -> {
                    places[u] = naive.spread(places[u]);
                    got = group.spread(u);
                }
                default -> {
                    places[u] = naive.commutators(places[s], places[t]);
                    got = group.commute(s, t, u);
                }
            }
            Check.due(named(naive, "a subgroup's call"), got, NaiveGroup.count(places[u]));
            Check.due(named(naive, "has"), group.has(s, a), places[s][a]);
            for (int p = 0; p < 4; p++) {
                Check.due(named(naive, "count"), group.count(p), NaiveGroup.count(places[p]));
            }
        }
        for (int a = 0; a < naive.size && a < 40; a++) {
            int element = naive.size <= 40 ? a : DRAW.below(naive.size);
            for (int p = 0; p < 4; p++) {
                Check.due(named(naive, "has"), group.has(p, element), places[p][element]);
            }
        }
    }

    private static void lookAtAll(NaiveGroup naive) {
        renew(naive);
        int centre = 0;
        int classes = 0;
        for (int a = 0; a < naive.size; a++) {
            boolean[] kin = naive.classOf(a);
            int amount = NaiveGroup.count(kin);
            int head = NaiveGroup.least(kin);
            centre += amount == 1 ? 1 : 0;
            classes += head == a ? 1 : 0;
            Check.due(named(naive, "kin"), group.kin(a), amount);
            call(naive);
            Check.due(named(naive, "head"), group.head(a), head);
            call(naive);
            Check.due(named(naive, "order"), group.order(a), naive.order(a));
            call(naive);
            Check.due(named(naive, "times -1"), group.times(a, -1), naive.inverse(a));
            call(naive);
            for (int b = 0; b < naive.size; b++) {
                Check.due(named(naive, "product"), group.product(a, b), naive.product(a, b));
                call(naive);
            }
        }
        Check.due(named(naive, "centre"), group.centre(), centre);
        Check.due(named(naive, "classes"), group.classes(), classes);
    }
}
