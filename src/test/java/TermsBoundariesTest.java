/** "What it is" and "Terms": each sentence with a boundary case has a test of its own. */
public final class TermsBoundariesTest {
    private static final int CALLS_OF_AN_OBJECT = 512;

    public static void main(String[] args) {
        Check.sentence("What it is", "at most 512 calls after an object has been made", TermsBoundariesTest::fullRuns);
        Check.sentence("What it is", "at most 512 calls, all of them refused but the last",
            TermsBoundariesTest::refusedRun);
        Check.sentence("What it is", "at most 512 calls, with fix and release in turn",
            TermsBoundariesTest::fixAndReleaseRun);
        Check.sentence("Terms", "at most 7 generators", TermsBoundariesTest::sevenGenerators);
        Check.sentence("Terms", "e(i) from 0 to r(i) - 1", TermsBoundariesTest::exponents);
        Check.sentence("Terms", "one more than r(i) - 1 wraps round to p(i)", TermsBoundariesTest::wrapAround);
        Check.sentence("Terms", "t(i) is 1 for the last one", TermsBoundariesTest::lastWeight);
        Check.sentence("Terms", "N is 1 when there are none", TermsBoundariesTest::groupOfOne);
        Check.sentence("Terms", "the numbers are 0 .. N - 1", TermsBoundariesTest::numbers);
        Check.sentence("Terms", "0 is the word without letters", TermsBoundariesTest::emptyWord);
        Check.sentence("Terms", "t(i) is the number of g(i) alone", TermsBoundariesTest::singleLetters);
        Check.sentence("Terms", "p(i) is a word below t(i): the last one's is 0", TermsBoundariesTest::lastPower);
        Check.sentence("Terms", "p(i) is a word below t(i): the largest", TermsBoundariesTest::largestPower);
        Check.sentence("Terms", "c(i, j) is a word below t(i): the largest", TermsBoundariesTest::largestConjugate);
        Check.sentence("Terms", "c(i, j) is a word below t(i), in front of g(j) too",
            TermsBoundariesTest::conjugateBeforeItsLetter);
        Check.sentence("Terms", "at first p(i) is 0", TermsBoundariesTest::firstPowers);
        Check.sentence("Terms", "at first c(i, j) is g(j) alone", TermsBoundariesTest::firstConjugates);
        Check.sentence("Terms", "consistent when no two different normal words are equal",
            TermsBoundariesTest::noTwoEqual);
        Check.sentence("Terms", "while the relations are fixed they cannot be changed",
            TermsBoundariesTest::notChangedWhileFixed);
        Check.sentence("Terms", "the inverse of a is the one whose product with a is 0", TermsBoundariesTest::inverses);
        Check.sentence("Terms", "subgroups are kept in four places 0 .. 3", TermsBoundariesTest::fourPlaces);
        Check.sentence("Terms", "a subgroup has 0", TermsBoundariesTest::subgroupsHaveZero);
        Check.sentence("Terms", "a subgroup has, with any two, their product",
            TermsBoundariesTest::subgroupsHaveProducts);
        Check.sentence("Terms", "what some elements generate is the least subgroup",
            TermsBoundariesTest::leastSubgroup);
        Check.sentence("Terms", "a class is the set of all conjugates of one element",
            TermsBoundariesTest::classesPartTheGroup);
        Check.end();
    }

    /** Every call that may come last, as the 512th one of an object of the largest size. */
    private static void fullRuns() {
        for (FixedCall call : FixedCall.values()) {
            CollectedGroup x = new CollectedGroup(0x2222222);
            int calls = 0;
            for (int i = 0; i < 6; i++, calls++) {
                x.power(i, 64 >> (i + 1));
            }
            x.fix();
            calls++;
            int[] arguments = new int[call.kinds.length()];
            for (int k = 0; k < arguments.length; k++) {
                arguments[k] = call.kinds.charAt(k) == 'p' ? 3 - k : call.kinds.charAt(k) == 'e' ? 64 : 1;
            }
            int first = call.answer(x, arguments);
            calls++;
            while (calls < CALLS_OF_AN_OBJECT) {
                calls++;
                String name = call.named(arguments) + ", call " + calls;
                Check.due(name, call.answer(x, arguments), first);
            }
        }
    }

    private static void refusedRun() {
        CollectedGroup x = new CollectedGroup(0x32);
        for (int calls = 1; calls < CALLS_OF_AN_OBJECT; calls++) {
            Check.due("product(0, 0), call " + calls, x.product(0, 0), CollectedGroup.NONE);
        }
        Check.due("fix(), call 512", x.fix(), true);
    }

    private static void fixAndReleaseRun() {
        CollectedGroup x = new CollectedGroup(0x2222222);
        for (int round = 0; round < CALLS_OF_AN_OBJECT / 4; round++) {
            Check.due("conjugate in round " + round, x.conjugate(0, 6, 1 + round % 2), true);
            Check.due("fix() in round " + round, x.fix(), round % 2 == 0);
            Check.due("join in round " + round, x.join(3, 64), round % 2 == 0 ? 2 : CollectedGroup.NONE);
            x.release();
        }
    }

    private static void sevenGenerators() {
        CollectedGroup x = Groups.plain(0x2222222);
        Check.due("generators()", x.generators(), 7);
        Check.due("generator(6)", x.generator(6), 1);
        Check.due("generator(7)", x.generator(7), CollectedGroup.NONE);
        Check.due("g(0) and g(6)", x.product(64, 1), 65);
        Check.due("g(6) and g(0)", x.product(1, 64), 65);
    }

    /** The largest exponents of all generators at once are the word N - 1. */
    private static void exponents() {
        CollectedGroup x = Groups.plain(0x2D3);
        int word = 0;
        int[] orders = {3, 13, 2};
        for (int i = 0; i < 3; i++) {
            for (int e = 1; e < orders[i]; e++) {
                word = x.product(word, x.generator(i));
            }
        }
        Check.due("all exponents r(i) - 1", word, 77);
        Check.due("the others' exponents stay when one wraps", x.product(77, 26), 25);
        Check.due("the others' exponents stay when one wraps", x.product(77, 2), 53);
        Check.due("the others' exponents stay when one wraps", x.product(77, 1), 76);
    }

    private static void wrapAround() {
        CollectedGroup x = new CollectedGroup(0x35);
        Check.due("power(0, 2)", x.power(0, 2), true);
        Check.due("fix()", x.fix(), true);
        Check.due("four times g(0)", x.times(3, 4), 12);
        Check.due("five times g(0)", x.times(3, 5), 2);
        Check.due("four times and once g(0)", x.product(12, 3), 2);
        Check.due("once and four times g(0)", x.product(3, 12), 2);
        Check.due("four times and four times g(0)", x.product(12, 12), 11);
        Check.due("14 and 14: both exponents wrap", x.product(14, 14), 9);
    }

    private static void lastWeight() {
        int[] orders = {0x2, 0xD, 0x32, 0xBB, 0x555, 0x2222222};
        for (int digits : orders) {
            CollectedGroup x = new CollectedGroup(digits);
            String name = "0x" + Integer.toHexString(digits) + ".generator(" + (x.generators() - 1) + ")";
            Check.due(name, x.generator(x.generators() - 1), 1);
        }
    }

    private static void groupOfOne() {
        CollectedGroup x = new CollectedGroup(0);
        Check.due("generators()", x.generators(), 0);
        Check.due("size()", x.size(), 1);
        Check.due("generator(0)", x.generator(0), CollectedGroup.NONE);
        Check.due("fixed()", x.fixed(), false);
        Check.due("power(0, 0)", x.power(0, 0), false);
        Check.due("conjugate(0, 1, 0)", x.conjugate(0, 1, 0), false);
        Check.due("fix()", x.fix(), true);
        Check.due("fixed()", x.fixed(), true);
        Check.due("product(0, 0)", x.product(0, 0), 0);
        Check.due("times(0, 5)", x.times(0, 5), 0);
        Check.due("conjugated(0, 0)", x.conjugated(0, 0), 0);
        Check.due("commutator(0, 0)", x.commutator(0, 0), 0);
        Check.due("order(0)", x.order(0), 1);
        Check.due("clear(0)", x.clear(0), 1);
        Check.due("join(0, 0)", x.join(0, 0), 1);
        Check.due("spread(0)", x.spread(0), 1);
        Check.due("commute(0, 0, 0)", x.commute(0, 0, 0), 1);
        Check.due("count(0)", x.count(0), 1);
        Check.due("has(0, 0)", x.has(0, 0), true);
        Check.due("has(0, 1)", x.has(0, 1), false);
        Check.due("derived(0)", x.derived(0), 1);
        Check.due("derived(1)", x.derived(1), 1);
        Check.due("lower(0)", x.lower(0), 1);
        Check.due("lower(1)", x.lower(1), 1);
        Check.due("centre()", x.centre(), 1);
        Check.due("classes()", x.classes(), 1);
        Check.due("kin(0)", x.kin(0), 1);
        Check.due("head(0)", x.head(0), 0);
        Check.due("product(0, 1)", x.product(0, 1), CollectedGroup.NONE);
    }

    private static void numbers() {
        for (int digits : new int[] {0, 0x2, 0x32, 0xBB, 0x2222222}) {
            CollectedGroup x = Groups.plain(digits);
            int n = x.size();
            Check.due("product(0, N - 1)", x.product(0, n - 1), n - 1);
            Check.due("product(N - 1, 0)", x.product(n - 1, 0), n - 1);
            Check.due("product(0, N)", x.product(0, n), CollectedGroup.NONE);
            Check.due("product(-1, 0)", x.product(-1, 0), CollectedGroup.NONE);
        }
    }

    private static void emptyWord() {
        CollectedGroup x = Groups.symmetric4();
        for (int a = 0; a < 24; a++) {
            Check.due("product(0, " + a + ")", x.product(0, a), a);
            Check.due("product(" + a + ", 0)", x.product(a, 0), a);
        }
    }

    private static void singleLetters() {
        CollectedGroup x = Groups.plain(0x5332);
        int[] weights = {45, 15, 5, 1};
        int word = 0;
        for (int i = 0; i < 4; i++) {
            Check.due("generator(" + i + ")", x.generator(i), weights[i]);
            word = x.product(word, weights[i]);
        }
        Check.due("g(0) g(1) g(2) g(3)", word, 66);
    }

    private static void lastPower() {
        CollectedGroup x = new CollectedGroup(0x53);
        Check.due("power(1, 0)", x.power(1, 0), true);
        Check.due("power(1, 1)", x.power(1, 1), false);
        Check.due("power(1, 4)", x.power(1, 4), false);
        Check.due("fix()", x.fix(), true);
        Check.due("five times g(1)", x.times(1, 5), 0);
    }

    private static void largestPower() {
        CollectedGroup x = new CollectedGroup(0x532);
        Check.due("power(0, 15)", x.power(0, 15), false);
        Check.due("power(0, 14)", x.power(0, 14), true);
        Check.due("power(1, 5)", x.power(1, 5), false);
        Check.due("power(1, 4)", x.power(1, 4), true);
        Check.due("fix()", x.fix(), true);
        Check.due("twice g(0)", x.product(15, 15), 14);
        Check.due("three times g(1)", x.times(5, 3), 4);
    }

    private static void largestConjugate() {
        CollectedGroup x = new CollectedGroup(0x332);
        Check.due("conjugate(0, 1, 9)", x.conjugate(0, 1, 9), false);
        Check.due("conjugate(0, 1, 8)", x.conjugate(0, 1, 8), true);
        Check.due("conjugate(0, 2, 1)", x.conjugate(0, 2, 1), true);
        Check.due("conjugate(1, 2, 3)", x.conjugate(1, 2, 3), false);
        // g(1) goes over to twice g(1) and twice g(2), and with it back again.
        Check.due("fix()", x.fix(), true);
        Check.due("g(1) g(0)", x.product(3, 9), 17);
        Check.due("g(1) by g(0) twice", x.conjugated(8, 9), 3);
    }

    private static void conjugateBeforeItsLetter() {
        CollectedGroup x = new CollectedGroup(0x332);
        Check.due("conjugate(0, 1, 1)", x.conjugate(0, 1, 1), true);
        Check.due("conjugate(0, 2, 3)", x.conjugate(0, 2, 3), true);
        Check.due("fix()", x.fix(), true);
        Check.due("g(2) g(0) is g(0) g(1)", x.product(1, 9), 12);
        Check.due("g(1) g(0) is g(0) g(2)", x.product(3, 9), 10);
    }

    private static void firstPowers() {
        CollectedGroup x = Groups.plain(0x5332);
        int[] orders = {2, 3, 3, 5};
        for (int i = 0; i < 4; i++) {
            Check.due("r(i) times g(" + i + ")", x.times(x.generator(i), orders[i]), 0);
        }
    }

    private static void firstConjugates() {
        CollectedGroup x = Groups.plain(0x5332);
        for (int i = 0; i < 4; i++) {
            for (int j = i + 1; j < 4; j++) {
                int both = x.generator(i) + x.generator(j);
                Check.due("g(" + j + ") g(" + i + ")", x.product(x.generator(j), x.generator(i)), both);
            }
        }
        Check.due("centre()", x.centre(), 90);
    }

    private static void noTwoEqual() {
        // g(1) g(0) is g(0), and g(0) has an inverse: g(1) is the word without letters.
        CollectedGroup x = new CollectedGroup(0x32);
        Check.due("conjugate(0, 1, 0)", x.conjugate(0, 1, 0), true);
        Check.due("fix()", x.fix(), false);
        Check.due("conjugate(0, 1, 1)", x.conjugate(0, 1, 1), true);
        Check.due("fix(), different words apart", x.fix(), true);
    }

    private static void notChangedWhileFixed() {
        CollectedGroup x = Groups.symmetric3();
        Check.due("power(0, 0)", x.power(0, 0), false);
        Check.due("conjugate(0, 1, 1)", x.conjugate(0, 1, 1), false);
        Check.due("g(1) g(0)", x.product(1, 3), 5);
        x.release();
        Check.due("conjugate(0, 1, 1)", x.conjugate(0, 1, 1), true);
        Check.due("fix()", x.fix(), true);
        Check.due("g(1) g(0), changed", x.product(1, 3), 4);
    }

    private static void inverses() {
        for (CollectedGroup x : new CollectedGroup[] {Groups.symmetric4(), Groups.quaternions(), Groups.sevenByThree()}) {
            for (int a = 0; a < x.size(); a++) {
                Check.due("a and its inverse", x.product(a, x.times(a, -1)), 0);
                Check.due("its inverse and a", x.product(x.times(a, -1), a), 0);
            }
        }
        CollectedGroup z = Groups.cyclic128();
        Check.due("inverse of 0", z.times(0, -1), 0);
        Check.due("inverse of 127", z.times(127, -1), 64);
    }

    private static void fourPlaces() {
        CollectedGroup x = Groups.symmetric4();
        int[] joined = {1, 4, 12, 14};
        int[] counts = {2, 3, 2, 4};
        for (int s = 0; s < 4; s++) {
            Check.due("join(" + s + ", ..)", x.join(s, joined[s]), counts[s]);
        }
        for (int s = 0; s < 4; s++) {
            Check.due("count(" + s + ")", x.count(s), counts[s]);
        }
        Check.due("count(-1)", x.count(-1), CollectedGroup.NONE);
        Check.due("count(4)", x.count(4), CollectedGroup.NONE);
    }

    private static void subgroupsHaveZero() {
        CollectedGroup x = Groups.symmetric3();
        for (int s = 0; s < 4; s++) {
            Check.due("at first", x.has(s, 0), true);
        }
        x.join(0, 3);
        Check.due("after join", x.has(0, 0), true);
        x.spread(0);
        Check.due("after spread", x.has(0, 0), true);
        x.commute(0, 0, 1);
        Check.due("after commute", x.has(1, 0), true);
        x.clear(0);
        Check.due("after clear", x.has(0, 0), true);
    }

    private static void subgroupsHaveProducts() {
        CollectedGroup x = Groups.symmetric4();
        x.join(0, 14);
        x.join(1, 12);
        x.join(1, 4);
        for (int s = 0; s < 2; s++) {
            for (int a = 0; a < 12; a++) {
                for (int b = 12; b < 24; b += 5) {
                    if (x.has(s, a) && x.has(s, b)) {
                        Check.due("a product of two", x.has(s, x.product(a, b)), true);
                    }
                }
            }
        }
        Check.due("twice 14", x.has(0, x.product(14, 14)), true);
    }

    private static void leastSubgroup() {
        CollectedGroup x = Groups.symmetric4();
        Check.due("0 generates", x.join(0, 0), 1);
        Check.due("12 generates", x.join(1, 12), 2);
        Check.due("14 generates", x.join(2, 14), 4);
        Check.due("12 and 4 generate", x.join(1, 4), 6);
        for (int a = 0; a < 24; a++) {
            boolean due = a % 4 == 0;
            Check.due("12 and 4 generate " + a, x.has(1, a), due);
        }
    }

    private static void classesPartTheGroup() {
        CollectedGroup x = Groups.sevenByThree();
        int sum = 0;
        int heads = 0;
        for (int a = 0; a < 21; a++) {
            if (x.head(a) == a) {
                sum += x.kin(a);
                heads++;
            }
            Check.due("kin(" + a + ")", x.kin(a), a == 0 ? 1 : a < 7 ? 3 : 7);
        }
        Check.due("the classes together", sum, 21);
        Check.due("classes()", x.classes(), heads);
        Check.due("head(3)", x.head(3), 3);
        Check.due("head(4)", x.head(4), 1);
        Check.due("head(6)", x.head(6), 3);
    }
}
