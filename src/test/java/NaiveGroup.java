import java.util.ArrayList;
import java.util.List;

/**
 * The document's words taken literally and slowly: words are rewritten letter by letter, and every
 * set is made from all its elements. Nothing here is taken from the program.
 */
final class NaiveGroup {
    final int[] orders;
    final int[] weights;
    final int size;
    final int[] powers;
    final int[][] conjugates;
    private int[][] byLetter;
    private int[][] table;

    NaiveGroup(int... orders) {
        this.orders = orders;
        int n = orders.length;
        weights = new int[n];
        powers = new int[n];
        conjugates = new int[n][n];
        int product = 1;
        for (int i = n - 1; i >= 0; i--) {
            weights[i] = product;
            product *= orders[i];
        }
        size = product;
        for (int i = 0; i < n; i++) {
            for (int j = i + 1; j < n; j++) {
                conjugates[i][j] = weights[j];
            }
        }
    }

    int digits() {
        int digits = 0;
        for (int i = 0; i < orders.length; i++) {
            digits |= orders[i] << (4 * i);
        }
        return digits;
    }

    List<Integer> lettersOf(int word) {
        List<Integer> letters = new ArrayList<>();
        for (int i = 0; i < orders.length; i++) {
            int exponent = word / weights[i] % orders[i];
            for (int k = 0; k < exponent; k++) {
                letters.add(i);
            }
        }
        return letters;
    }

    /** Rewrites the leftmost place where a relation's left side stands until there is none. */
    int collect(List<Integer> start) {
        List<Integer> word = new ArrayList<>(start);
        while (rewriteOnce(word)) {
            if (word.size() > 100000) {
                throw new IllegalStateException("a word grew too long");
            }
        }
        int number = 0;
        for (int letter : word) {
            number += weights[letter];
        }
        return number;
    }

    private boolean rewriteOnce(List<Integer> word) {
        int run = 0;
        for (int k = 0; k < word.size(); k++) {
            int letter = word.get(k);
            int before = k > 0 ? word.get(k - 1) : letter;
            if (before > letter) {
                List<Integer> right = new ArrayList<>(List.of(letter));
                right.addAll(lettersOf(conjugates[letter][before]));
                replace(word, k - 1, k + 1, right);
                return true;
            }
            run = k > 0 && before == letter ? run + 1 : 1;
            if (run == orders[letter]) {
                replace(word, k + 1 - run, k + 1, lettersOf(powers[letter]));
                return true;
            }
        }
        return false;
    }

    private static void replace(List<Integer> word, int from, int to, List<Integer> by) {
        List<Integer> part = word.subList(from, to);
        part.clear();
        part.addAll(by);
    }

    /**
     * Whether the relations among g(first) and those behind it are consistent: they are just when
     * letters put behind normal words act on them as the relations say.
     */
    boolean consistentFrom(int first) {
        int n = orders.length;
        int limit = first == 0 ? size : weights[first - 1];
        byLetter = new int[n][limit];
        for (int j = first; j < n; j++) {
            for (int w = 0; w < limit; w++) {
                List<Integer> letters = lettersOf(w);
                letters.add(j);
                byLetter[j][w] = collect(letters);
            }
        }
        for (int w = 0; w < limit; w++) {
            for (int i = first; i < n; i++) {
                int round = w;
                for (int k = 0; k < orders[i]; k++) {
                    round = byLetter[i][round];
                }
                if (round != behind(w, powers[i])) {
                    return false;
                }
                for (int j = i + 1; j < n; j++) {
                    if (byLetter[i][byLetter[j][w]] != behind(byLetter[i][w], conjugates[i][j])) {
                        return false;
                    }
                }
            }
        }
        return true;
    }

    private int behind(int word, int tail) {
        int result = word;
        for (int letter : lettersOf(tail)) {
            result = byLetter[letter][result];
        }
        return result;
    }

    boolean consistent() {
        table = null;
        if (!consistentFrom(0)) {
            return false;
        }
        table = new int[size][size];
        for (int a = 0; a < size; a++) {
            for (int b = 0; b < size; b++) {
                table[a][b] = behind(a, b);
            }
        }
        return true;
    }

    int product(int a, int b) {
        return table[a][b];
    }

    int inverse(int a) {
        for (int b = 0; b < size; b++) {
            if (table[a][b] == 0) {
                return b;
            }
        }
        throw new IllegalStateException("no inverse");
    }

    int conjugated(int a, int b) {
        return table[table[inverse(b)][a]][b];
    }

    int commutator(int a, int b) {
        return table[table[table[inverse(a)][inverse(b)]][a]][b];
    }

    int order(int a) {
        int power = a;
        int k = 1;
        while (power != 0) {
            power = table[power][a];
            k++;
        }
        return k;
    }

    int times(int a, int k) {
        int base = k < 0 ? inverse(a) : a;
        long count = Math.abs((long) k) % order(a);
        int result = 0;
        for (long m = 0; m < count; m++) {
            result = table[result][base];
        }
        return result;
    }

    boolean[] trivial() {
        boolean[] set = new boolean[size];
        set[0] = true;
        return set;
    }

    boolean[] whole() {
        boolean[] set = new boolean[size];
        java.util.Arrays.fill(set, true);
        return set;
    }

    /** What the marked elements generate: products of any two, until nothing is new. */
    boolean[] generated(boolean[] marked) {
        boolean[] set = marked.clone();
        set[0] = true;
        boolean grown = true;
        while (grown) {
            grown = false;
            for (int a = 0; a < size; a++) {
                for (int b = 0; b < size && set[a]; b++) {
                    if (set[b] && !set[table[a][b]]) {
                        set[table[a][b]] = true;
                        grown = true;
                    }
                }
            }
        }
        return set;
    }

    boolean[] joined(boolean[] set, int a) {
        boolean[] more = set.clone();
        more[a] = true;
        return generated(more);
    }

    boolean[] spread(boolean[] set) {
        boolean[] more = set.clone();
        for (int a = 0; a < size; a++) {
            for (int b = 0; b < size && set[a]; b++) {
                more[conjugated(a, b)] = true;
            }
        }
        return generated(more);
    }

    boolean[] commutators(boolean[] s, boolean[] t) {
        boolean[] more = new boolean[size];
        for (int a = 0; a < size; a++) {
            for (int b = 0; b < size && s[a]; b++) {
                if (t[b]) {
                    more[commutator(a, b)] = true;
                }
            }
        }
        return generated(more);
    }

    boolean[] classOf(int a) {
        boolean[] set = new boolean[size];
        for (int b = 0; b < size; b++) {
            set[conjugated(a, b)] = true;
        }
        return set;
    }

    static int count(boolean[] set) {
        int count = 0;
        for (boolean member : set) {
            count += member ? 1 : 0;
        }
        return count;
    }

    static int least(boolean[] set) {
        int a = 0;
        while (!set[a]) {
            a++;
        }
        return a;
    }
}
