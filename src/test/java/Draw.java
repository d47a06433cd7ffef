/** A fixed row of numbers that looks like chance, and relations drawn by it. */
final class Draw {
    private long seed;

    Draw(long seed) {
        this.seed = seed;
    }

    int below(int limit) {
        seed = seed * 6364136223846793005L + 1442695040888963407L;
        return (int) ((seed >>> 33) % limit);
    }

    int oneOf(int... values) {
        return values[below(values.length)];
    }

    /** Chosen from the last generator on, so that they are consistent and mostly far from trivial. */
    void consistentRelations(NaiveGroup naive) {
        for (int i = naive.orders.length - 1; i >= 0; i--) {
            chooseLevel(naive, i);
        }
    }

    private void chooseLevel(NaiveGroup naive, int i) {
        for (int attempt = 0; attempt < 60; attempt++) {
            naive.powers[i] = below(2) == 0 ? 0 : below(naive.weights[i]);
            for (int j = i + 1; j < naive.orders.length; j++) {
                int kind = below(3);
                int weight = naive.weights[j];
                naive.conjugates[i][j] = kind == 0 ? weight
                    : kind == 1 ? weight * (1 + below(naive.orders[j] - 1)) + below(weight)
                    : below(naive.weights[i]);
            }
            if (naive.consistentFrom(i)) {
                return;
            }
        }
        naive.powers[i] = 0;
        for (int j = i + 1; j < naive.orders.length; j++) {
            naive.conjugates[i][j] = naive.weights[j];
        }
    }
}
