/** Promises 10 to 14: each sentence with a boundary case has a test of its own. */
public final class ElementsBoundariesTest {
    private static final int NONE = CollectedGroup.NONE;
    private static final int LEAST = Integer.MIN_VALUE;
    private static final int MOST = Integer.MAX_VALUE;

    public static void main(String[] args) {
        Check.sentence("Promise 10", "the product with 0", ElementsBoundariesTest::productWithZero);
        Check.sentence("Promise 10", "the product of the last with the last", ElementsBoundariesTest::productOfLast);
        Check.sentence("Promise 10", "the product of a and b, not of b and a", ElementsBoundariesTest::productInOrder);
        Check.sentence("Promise 10", "a product that wraps through all generators",
            ElementsBoundariesTest::productCarries);
        Check.sentence("Promise 10", "NONE for a or b below 0", () -> productRefused(-1, -24, LEAST));
        Check.sentence("Promise 10", "NONE for a or b N or above", () -> productRefused(24, 25, 127, 128, MOST));
        Check.sentence("Promise 11", "k = 0", ElementsBoundariesTest::timesZero);
        Check.sentence("Promise 11", "k = 1", ElementsBoundariesTest::timesOne);
        Check.sentence("Promise 11", "for k below 0 that of -k times the inverse",
            ElementsBoundariesTest::timesBelowZero);
        Check.sentence("Promise 11", "k the order of a, and one more or less", ElementsBoundariesTest::timesOrder);
        Check.sentence("Promise 11", "k any int: the largest", ElementsBoundariesTest::timesMost);
        Check.sentence("Promise 11", "k any int: the least, for which -k is no int",
            ElementsBoundariesTest::timesLeast);
        Check.sentence("Promise 11", "k any int, of 0", ElementsBoundariesTest::timesOfZero);
        Check.sentence("Promise 11", "NONE for an element that isn't, whatever k is",
            ElementsBoundariesTest::timesRefused);
        Check.sentence("Promise 12", "by 0", ElementsBoundariesTest::conjugatedByZero);
        Check.sentence("Promise 12", "of 0", ElementsBoundariesTest::conjugatedOfZero);
        Check.sentence("Promise 12", "by itself", ElementsBoundariesTest::conjugatedByItself);
        Check.sentence("Promise 12", "the inverse of b, a and b, not b, a and its inverse",
            ElementsBoundariesTest::conjugatedInOrder);
        Check.sentence("Promise 12", "NONE for a or b that isn't an element",
            ElementsBoundariesTest::conjugatedRefused);
        Check.sentence("Promise 13", "with 0", ElementsBoundariesTest::commutatorWithZero);
        Check.sentence("Promise 13", "with itself", ElementsBoundariesTest::commutatorWithItself);
        Check.sentence("Promise 13", "the inverses of a and of b, a and b, in this order",
            ElementsBoundariesTest::commutatorInOrder);
        Check.sentence("Promise 13", "of two that commute", ElementsBoundariesTest::commutatorCommuting);
        Check.sentence("Promise 13", "NONE for a or b that isn't an element",
            ElementsBoundariesTest::commutatorRefused);
        Check.sentence("Promise 14", "1 for 0", ElementsBoundariesTest::orderOfZero);
        Check.sentence("Promise 14", "the least k: N in a cyclic group", ElementsBoundariesTest::orderOfAll);
        Check.sentence("Promise 14", "the least k, no multiple of it", ElementsBoundariesTest::orderLeast);
        Check.sentence("Promise 14", "NONE for an element that isn't", ElementsBoundariesTest::orderRefused);
        Check.end();
    }

    private static void productWithZero() {
        CollectedGroup x = Groups.cyclic128();
        for (int a = 0; a < 128; a++) {
            Check.due("product(0, " + a + ")", x.product(0, a), a);
            Check.due("product(" + a + ", 0)", x.product(a, 0), a);
        }
        Check.due("in a group of one", Groups.one().product(0, 0), 0);
    }

    private static void productOfLast() {
        Check.due("2", Groups.plain(0x2).product(1, 1), 0);
        Check.due("13", Groups.plain(0xD).product(12, 12), 11);
        Check.due("S3", Groups.symmetric3().product(5, 5), 0);
        Check.due("S4", Groups.symmetric4().product(23, 23), 2);
        Check.due("Q8", Groups.quaternions().product(7, 7), 1);
        Check.due("2^7", Groups.plain(0x2222222).product(127, 127), 0);
        Check.due("Z128", Groups.cyclic128().product(127, 127), 63);
    }

    private static void productInOrder() {
        CollectedGroup x = Groups.sevenByThree();
        Check.due("g(0) g(1)", x.product(7, 1), 8);
        Check.due("g(1) g(0)", x.product(1, 7), 9);
        Check.due("g(1) and twice g(0)", x.product(1, 14), 18);
        Check.due("twice g(0) and six times g(1), g(0)", x.product(20, 7), 5);
        CollectedGroup q = Groups.quaternions();
        Check.due("i j", q.product(4, 2), 6);
        Check.due("j i", q.product(2, 4), 7);
    }

    /** In Z128 g(0) is the number 1 and every carry goes to the next generator. */
    private static void productCarries() {
        CollectedGroup x = Groups.cyclic128();
        Check.due("127 and 1", x.product(127, 64), 0);
        Check.due("1 and 127", x.product(64, 127), 0);
        Check.due("63 and 1", x.product(126, 64), 1);
        Check.due("63 + 65", x.product(126, 65), 0);
        Check.due("the last and the last", x.product(1, 1), 0);
    }

    private static void productRefused(int... wrong) {
        CollectedGroup x = Groups.symmetric4();
        for (int a : wrong) {
            Check.due("product(" + a + ", 0)", x.product(a, 0), NONE);
            Check.due("product(0, " + a + ")", x.product(0, a), NONE);
            Check.due("product(" + a + ", 23)", x.product(a, 23), NONE);
            Check.due("product(23, " + a + ")", x.product(23, a), NONE);
            Check.due("product of both", x.product(a, a), NONE);
        }
    }

    private static void timesZero() {
        CollectedGroup x = Groups.symmetric4();
        for (int a = 0; a < 24; a++) {
            Check.due("times(" + a + ", 0)", x.times(a, 0), 0);
        }
    }

    private static void timesOne() {
        CollectedGroup x = Groups.symmetric4();
        for (int a = 0; a < 24; a++) {
            Check.due("times(" + a + ", 1)", x.times(a, 1), a);
        }
    }

    private static void timesBelowZero() {
        CollectedGroup x = Groups.symmetric4();
        for (int a = 0; a < 24; a++) {
            int inverse = x.times(a, -1);
            Check.due("product with the inverse of " + a, x.product(a, inverse), 0);
            Check.due("times(" + a + ", -2)", x.times(a, -2), x.product(inverse, inverse));
        }
        CollectedGroup z = Groups.cyclic128();
        Check.due("times(64, -1)", z.times(64, -1), 127);
        Check.due("times(64, -2)", z.times(64, -2), 63);
        Check.due("times(64, -127)", z.times(64, -127), 64);
        Check.due("times(64, -128)", z.times(64, -128), 0);
        Check.due("times(64, -129)", z.times(64, -129), 127);
    }

    private static void timesOrder() {
        CollectedGroup x = Groups.symmetric4();
        for (int a = 0; a < 24; a++) {
            int order = x.order(a);
            Check.due("order times " + a, x.times(a, order), 0);
            Check.due("one more", x.times(a, order + 1), a);
            Check.due("one less", x.times(a, order - 1), x.times(a, -1));
            Check.due("minus the order", x.times(a, -order), 0);
        }
        CollectedGroup z = Groups.cyclic128();
        Check.due("times(64, 127)", z.times(64, 127), 127);
        Check.due("times(64, 128)", z.times(64, 128), 0);
        Check.due("times(64, 129)", z.times(64, 129), 64);
    }

    private static void timesMost() {
        int[] primes = {2, 3, 5, 7, 11, 13};
        for (int p : primes) {
            CollectedGroup x = Groups.plain(p);
            Check.due("order " + p, x.times(1, MOST), (int) (2147483647L % p));
            Check.due("order " + p + ", of the last", x.times(p - 1, MOST), (int) (2147483647L * (p - 1) % p));
            Check.due("order " + p + ", one less", x.times(1, MOST - 1), (int) (2147483646L % p));
        }
        Check.due("order 128", Groups.cyclic128().times(64, MOST), 127);
    }

    private static void timesLeast() {
        int[] primes = {2, 3, 5, 7, 11, 13};
        for (int p : primes) {
            CollectedGroup x = Groups.plain(p);
            int want = (int) ((p - 2147483648L % p) % p);
            Check.due("order " + p, x.times(1, LEAST), want);
            Check.due("order " + p + ", one more", x.times(1, LEAST + 1), (want + 1) % p);
        }
        Check.due("order 128", Groups.cyclic128().times(64, LEAST), 0);
        Check.due("order 128, one more", Groups.cyclic128().times(64, LEAST + 1), 64);
        Check.due("order 3 in S3", Groups.symmetric3().times(1, LEAST), 1);
        Check.due("order 2 in S3", Groups.symmetric3().times(5, LEAST), 0);
        Check.due("order 2 in S3, one more", Groups.symmetric3().times(5, LEAST + 1), 5);
    }

    private static void timesOfZero() {
        for (CollectedGroup x : new CollectedGroup[] {Groups.one(), Groups.symmetric3(), Groups.cyclic128()}) {
            for (int k : new int[] {0, 1, -1, 128, MOST, LEAST}) {
                Check.due("times(0, " + k + ")", x.times(0, k), 0);
            }
        }
    }

    private static void timesRefused() {
        CollectedGroup x = Groups.symmetric3();
        for (int a : new int[] {-1, 6, 7, LEAST, MOST}) {
            for (int k : new int[] {0, 1, -1, MOST, LEAST}) {
                Check.due("times(" + a + ", " + k + ")", x.times(a, k), NONE);
            }
        }
    }

    private static void conjugatedByZero() {
        CollectedGroup x = Groups.symmetric4();
        for (int a = 0; a < 24; a++) {
            Check.due("conjugated(" + a + ", 0)", x.conjugated(a, 0), a);
        }
    }

    private static void conjugatedOfZero() {
        CollectedGroup x = Groups.symmetric4();
        for (int b = 0; b < 24; b++) {
            Check.due("conjugated(0, " + b + ")", x.conjugated(0, b), 0);
        }
    }

    private static void conjugatedByItself() {
        CollectedGroup x = Groups.symmetric4();
        for (int a = 0; a < 24; a++) {
            Check.due("conjugated(" + a + ", " + a + ")", x.conjugated(a, a), a);
        }
    }

    private static void conjugatedInOrder() {
        CollectedGroup x = Groups.sevenByThree();
        Check.due("g(1) by g(0)", x.conjugated(1, 7), 2);
        Check.due("g(1) by twice g(0)", x.conjugated(1, 14), 4);
        Check.due("g(0) by g(1)", x.conjugated(7, 1), 13);
        for (int a = 0; a < 21; a += 4) {
            for (int b = 0; b < 21; b += 3) {
                int want = x.product(x.product(x.times(b, -1), a), b);
                Check.due("conjugated(" + a + ", " + b + ")", x.conjugated(a, b), want);
            }
        }
    }

    private static void conjugatedRefused() {
        CollectedGroup x = Groups.symmetric3();
        for (int a : new int[] {-1, 6, LEAST, MOST}) {
            Check.due("conjugated(" + a + ", 0)", x.conjugated(a, 0), NONE);
            Check.due("conjugated(0, " + a + ")", x.conjugated(0, a), NONE);
            Check.due("conjugated(5, " + a + ")", x.conjugated(5, a), NONE);
        }
    }

    private static void commutatorWithZero() {
        CollectedGroup x = Groups.symmetric4();
        for (int a = 0; a < 24; a++) {
            Check.due("commutator(" + a + ", 0)", x.commutator(a, 0), 0);
            Check.due("commutator(0, " + a + ")", x.commutator(0, a), 0);
        }
    }

    private static void commutatorWithItself() {
        CollectedGroup x = Groups.symmetric4();
        for (int a = 0; a < 24; a++) {
            Check.due("commutator(" + a + ", " + a + ")", x.commutator(a, a), 0);
        }
    }

    private static void commutatorInOrder() {
        CollectedGroup x = Groups.sevenByThree();
        Check.due("g(1), g(0)", x.commutator(1, 7), 1);
        Check.due("g(0), g(1)", x.commutator(7, 1), 6);
        for (int a = 0; a < 21; a += 4) {
            for (int b = 0; b < 21; b += 3) {
                int inverses = x.product(x.times(a, -1), x.times(b, -1));
                int want = x.product(x.product(inverses, a), b);
                Check.due("commutator(" + a + ", " + b + ")", x.commutator(a, b), want);
            }
        }
    }

    private static void commutatorCommuting() {
        CollectedGroup x = Groups.cyclic128();
        for (int a = 0; a < 128; a += 9) {
            Check.due("commutator(" + a + ", 127)", x.commutator(a, 127), 0);
        }
        Check.due("in Q8, with -1", Groups.quaternions().commutator(7, 1), 0);
        Check.due("in Q8, of i and j", Groups.quaternions().commutator(4, 2), 1);
    }

    private static void commutatorRefused() {
        CollectedGroup x = Groups.symmetric3();
        for (int a : new int[] {-1, 6, LEAST, MOST}) {
            Check.due("commutator(" + a + ", 0)", x.commutator(a, 0), NONE);
            Check.due("commutator(0, " + a + ")", x.commutator(0, a), NONE);
            Check.due("commutator of both", x.commutator(a, a), NONE);
        }
    }

    private static void orderOfZero() {
        for (CollectedGroup x : Groups.ofSizes1And2And6And128()) {
            Check.due("order(0)", x.order(0), 1);
        }
    }

    private static void orderOfAll() {
        Check.due("of g(0) in Z128", Groups.cyclic128().order(64), 128);
        Check.due("of 127 in Z128", Groups.cyclic128().order(127), 128);
        Check.due("of 12 in 13", Groups.plain(0xD).order(12), 13);
        Check.due("of 4 in 2 by 3", Groups.plain(0x32).order(4), 6);
        Check.due("of 1 in 2", Groups.plain(0x2).order(1), 2);
        Check.due("of 1 in 5 by 13", Groups.plain(0xD5).order(14), 65);
    }

    private static void orderLeast() {
        CollectedGroup x = Groups.symmetric4();
        int[] amounts = new int[5];
        for (int a = 0; a < 24; a++) {
            int order = x.order(a);
            Check.due("order times " + a, x.times(a, order), 0);
            for (int k = 1; k < order; k++) {
                Check.due("not earlier", x.times(a, k) != 0, true);
            }
            amounts[order]++;
        }
        Check.due("of order 1", amounts[1], 1);
        Check.due("of order 2", amounts[2], 9);
        Check.due("of order 3", amounts[3], 8);
        Check.due("of order 4", amounts[4], 6);
    }

    private static void orderRefused() {
        CollectedGroup x = Groups.symmetric3();
        for (int a : new int[] {-1, -6, 6, 7, LEAST, MOST}) {
            Check.due("order(" + a + ")", x.order(a), NONE);
        }
        Check.due("order(1) in a group of one", Groups.one().order(1), NONE);
        Check.due("order(128) in Z128", Groups.cyclic128().order(128), NONE);
    }
}
