/** Promises 1 to 9: each sentence with a boundary case has a test of its own. */
public final class RelationsBoundariesTest {
    private static final int NONE = CollectedGroup.NONE;
    private static final int LEAST = Integer.MIN_VALUE;
    private static final int MOST = Integer.MAX_VALUE;

    public static void main(String[] args) {
        newObjects();
        generators();
        powers();
        conjugates();
        fixing();
        releasing();
        Check.end();
    }

    private static void newObjects() {
        Check.sentence("Promise 1", "the digits from the lowest on", RelationsBoundariesTest::lowestDigitFirst);
        Check.sentence("Promise 1", "a digit is four bits", RelationsBoundariesTest::fourBits);
        Check.sentence("Promise 1", "at most seven", RelationsBoundariesTest::atMostSeven);
        Check.sentence("Promise 1", "until one isn't a prime", RelationsBoundariesTest::firstDigit);
        Check.sentence("Promise 1", "until one isn't a prime: none behind it", RelationsBoundariesTest::laterDigit);
        Check.sentence("Promise 1", "until the product would be above 128: 128 is not",
            RelationsBoundariesTest::just128);
        Check.sentence("Promise 1", "until the product would be above 128: 130 is", RelationsBoundariesTest::above128);
        Check.sentence("Promise 1", "until the product would be above 128: none behind it",
            RelationsBoundariesTest::noneBehindTooLarge);
        Check.sentence("Promise 1", "orders with the sign bit", RelationsBoundariesTest::negativeOrders);
        Check.sentence("Promise 1", "not fixed", RelationsBoundariesTest::newIsNotFixed);
    }

    private static void generators() {
        Check.sentence("Promise 2", "with none N is 1", RelationsBoundariesTest::noGenerators);
        Check.sentence("Promise 2", "how many generators there are: 1 .. 7",
            RelationsBoundariesTest::countsOfGenerators);
        Check.sentence("Promise 2", "the same in every state", RelationsBoundariesTest::generatorsInEveryState);
        Check.sentence("Promise 3", "N: 1, 2, 128", RelationsBoundariesTest::sizes);
        Check.sentence("Promise 3", "the same in every state", RelationsBoundariesTest::sizeInEveryState);
        Check.sentence("Promise 4", "t(i), the first and the last", RelationsBoundariesTest::outermostGenerators);
        Check.sentence("Promise 4", "NONE when there is no generator i: below 0", () -> noGenerator(-1, -2, -7, LEAST));
        Check.sentence("Promise 4", "NONE when there is no generator i: too large",
            () -> noGenerator(3, 4, 6, 7, 8, MOST));
        Check.sentence("Promise 4", "NONE when there is no generator at all",
            RelationsBoundariesTest::noGeneratorAtAll);
        Check.sentence("Promise 4", "the same in every state", RelationsBoundariesTest::generatorInEveryState);
    }

    private static void powers() {
        Check.sentence("Promise 5", "true for w from 0 to t(i) - 1", RelationsBoundariesTest::powerAccepts);
        Check.sentence("Promise 5", "p(i) becomes the word: the last call counts",
            RelationsBoundariesTest::powerLastCounts);
        Check.sentence("Promise 5", "false when the relations are fixed", RelationsBoundariesTest::powerFixed);
        Check.sentence("Promise 5", "false when there is no generator i: below 0",
            () -> powerRefused(0, -1, -2, LEAST));
        Check.sentence("Promise 5", "false when there is no generator i: too large",
            () -> powerRefused(0, 3, 4, 7, MOST));
        Check.sentence("Promise 5", "false when there is no generator at all", RelationsBoundariesTest::powerOfNone);
        Check.sentence("Promise 5", "false when w is below 0", RelationsBoundariesTest::powerBelowZero);
        Check.sentence("Promise 5", "false when w is t(i) or above", RelationsBoundariesTest::powerTooLarge);
    }

    private static void conjugates() {
        Check.sentence("Promise 6", "true for w from 0 to t(i) - 1", RelationsBoundariesTest::conjugateAccepts);
        Check.sentence("Promise 6", "c(i, j) becomes the word: the last call counts",
            RelationsBoundariesTest::conjugateLastCounts);
        Check.sentence("Promise 6", "false when the relations are fixed", RelationsBoundariesTest::conjugateFixed);
        Check.sentence("Promise 6", "false when there is no generator i", RelationsBoundariesTest::conjugateNoI);
        Check.sentence("Promise 6", "false when there is no generator j", RelationsBoundariesTest::conjugateNoJ);
        Check.sentence("Promise 6", "false when there is no generator at all",
            RelationsBoundariesTest::conjugateOfNone);
        Check.sentence("Promise 6", "false when i is j", RelationsBoundariesTest::conjugateSame);
        Check.sentence("Promise 6", "false when i is greater than j", RelationsBoundariesTest::conjugateGreater);
        Check.sentence("Promise 6", "false when w is below 0", RelationsBoundariesTest::conjugateBelowZero);
        Check.sentence("Promise 6", "false when w is t(i) or above", RelationsBoundariesTest::conjugateTooLarge);
    }

    private static void fixing() {
        Check.sentence("Promise 7", "consistent with no generators", RelationsBoundariesTest::fixOne);
        Check.sentence("Promise 7", "consistent with one generator", RelationsBoundariesTest::fixSingle);
        Check.sentence("Promise 7", "consistent at the largest size", RelationsBoundariesTest::fixLargest);
        Check.sentence("Promise 7", "not consistent: a conjugate that is 0", RelationsBoundariesTest::fixLostLetter);
        Check.sentence("Promise 7", "not consistent: two conjugates that are the same",
            RelationsBoundariesTest::fixMerged);
        Check.sentence("Promise 7", "not consistent: a power that g(i) changes",
            RelationsBoundariesTest::fixChangedPower);
        Check.sentence("Promise 7", "not consistent: r(i) turns are not the turn by p(i)",
            RelationsBoundariesTest::fixTurns);
        Check.sentence("Promise 7", "consistent: r(i) turns are a turn by p(i) that is none of 0",
            RelationsBoundariesTest::fixTurnByPower);
        Check.sentence("Promise 7", "not consistent: a turn that breaks a power",
            RelationsBoundariesTest::fixBrokenPower);
        Check.sentence("Promise 7", "not consistent: a turn that breaks a conjugate",
            RelationsBoundariesTest::fixBrokenConjugate);
        Check.sentence("Promise 7", "not consistent: among the last generators alone",
            RelationsBoundariesTest::fixBehind);
        Check.sentence("Promise 7", "not consistent: then not fixed", RelationsBoundariesTest::fixRefusedNotFixed);
        Check.sentence("Promise 7", "every place has the subgroup of 0 alone then",
            RelationsBoundariesTest::fixEmptiesPlaces);
        Check.sentence("Promise 7", "every place has 0 alone also in a group changed meanwhile",
            RelationsBoundariesTest::fixEmptiesChanged);
        Check.sentence("Promise 7", "if they were fixed already nothing changes", RelationsBoundariesTest::fixTwice);
        Check.sentence("Promise 7", "answers whether they are consistent: fixed already",
            RelationsBoundariesTest::fixTwiceAnswers);
        Check.sentence("Promise 7", "a refused fix after a good one does not keep the old group",
            RelationsBoundariesTest::fixAfterOther);
        Check.sentence("Promise 7", "nothing is left of a group that was fixed before",
            RelationsBoundariesTest::fixChangedGroup);
        Check.sentence("Promise 7", "the words after a refused fix are those of the next one",
            RelationsBoundariesTest::fixAfterRefused);
    }

    private static void releasing() {
        Check.sentence("Promise 8", "not fixed any more", RelationsBoundariesTest::releaseEnds);
        Check.sentence("Promise 8", "of relations that aren't fixed", RelationsBoundariesTest::releaseUnfixed);
        Check.sentence("Promise 8", "twice", RelationsBoundariesTest::releaseTwice);
        Check.sentence("Promise 8", "they stay as they are", RelationsBoundariesTest::releaseKeepsRelations);
        Check.sentence("Promise 8", "has() is false", RelationsBoundariesTest::releaseHas);
        Check.sentence("Promise 8", "(F) calls answer NONE till they are again", RelationsBoundariesTest::releaseNone);
        Check.sentence("Promise 8", "power and conjugate are taken again", RelationsBoundariesTest::releaseOpens);
        Check.sentence("Promise 9", "false at first",
            () -> Check.due("fixed()", new CollectedGroup(0x32).fixed(), false));
        Check.sentence("Promise 9", "true after fix, also after a second one", RelationsBoundariesTest::fixedAfterFix);
        Check.sentence("Promise 9", "false after a refused fix", RelationsBoundariesTest::fixedAfterRefused);
        Check.sentence("Promise 9", "false after release, true after the next fix",
            RelationsBoundariesTest::fixedAfterRelease);
    }

    private static void made(int orders, int generators, int size) {
        CollectedGroup x = new CollectedGroup(orders);
        String name = "0x" + Integer.toHexString(orders);
        Check.due(name + " generators()", x.generators(), generators);
        Check.due(name + " size()", x.size(), size);
    }

    private static void lowestDigitFirst() {
        CollectedGroup x = new CollectedGroup(0x532);
        Check.due("generators()", x.generators(), 3);
        Check.due("generator(0), of order 2", x.generator(0), 15);
        Check.due("generator(1), of order 3", x.generator(1), 5);
        Check.due("generator(2), of order 5", x.generator(2), 1);
        Check.due("fix()", x.fix(), true);
        Check.due("order of g(0)", x.order(15), 2);
        Check.due("order of g(1)", x.order(5), 3);
        Check.due("order of g(2)", x.order(1), 5);
    }

    private static void fourBits() {
        boolean[] prime = {false, false, true, true, false, true, false, true, false, false, false, true, false, true,
            false, false};
        for (int digit = 0; digit < 16; digit++) {
            made(digit, prime[digit] ? 1 : 0, prime[digit] ? digit : 1);
            made(digit << 4 | 2, prime[digit] ? 2 : 1, prime[digit] ? 2 * digit : 2);
        }
        made(0x10, 0, 1);
        made(0x12, 1, 2);
        made(0x22, 2, 4);
    }

    private static void atMostSeven() {
        made(0x222222, 6, 64);
        made(0x2222222, 7, 128);
        made(0x22222222, 7, 128);
        made(0x32222222, 7, 128);
        made(0x72222222, 7, 128);
        made(0x02222222, 7, 128);
    }

    private static void firstDigit() {
        for (int digit : new int[] {0, 1, 4, 6, 8, 9, 10, 12, 14, 15}) {
            made(digit, 0, 1);
            made(0x220 | digit, 0, 1);
        }
    }

    private static void laterDigit() {
        for (int digit : new int[] {0, 1, 4, 6, 8, 9, 10, 12, 14, 15}) {
            made(0x2203 | digit << 4, 1, 3);
            made(0x2222022 | digit << 8, 2, 4);
        }
        made(0x2022222, 5, 32);
        made(0x1222222, 6, 64);
    }

    private static void just128() {
        made(0x2222222, 7, 128);
        made(0x3732, 4, 126);
        made(0x7332, 4, 126);
        made(0x555, 3, 125);
        made(0xBB, 2, 121);
        made(0x232222, 6, 96);
    }

    private static void above128() {
        made(0xD52, 2, 10);
        made(0x25D, 2, 65);
        made(0x2D5, 2, 65);
        made(0xB322, 3, 12);
        made(0x5333, 3, 27);
        made(0xDB, 1, 11);
        made(0xBD, 1, 13);
        made(0x3222222, 6, 64);
        made(0x33333, 4, 81);
    }

    private static void noneBehindTooLarge() {
        made(0x2DD, 1, 13);
        made(0x22DB, 1, 11);
        made(0x25333, 3, 27);
        made(0x27555, 3, 125);
        made(0x2D222222, 6, 64);
    }

    private static void negativeOrders() {
        made(-1, 0, 1);
        made(LEAST, 0, 1);
        made(0x80000002, 1, 2);
        made(0xF2222222, 7, 128);
        made(0xD3222222, 6, 64);
        made(0xFFFFFF32, 2, 6);
        made(MOST, 0, 1);
    }

    private static void newIsNotFixed() {
        for (int orders : new int[] {0, 2, 0x32, 0x2222222, -1}) {
            CollectedGroup x = new CollectedGroup(orders);
            Check.due("fixed()", x.fixed(), false);
            Check.due("centre()", x.centre(), NONE);
            Check.due("has(0, 0)", x.has(0, 0), false);
        }
    }

    private static void noGenerators() {
        for (int orders : new int[] {0, 1, 4, 0x20, -1, LEAST}) {
            CollectedGroup x = new CollectedGroup(orders);
            Check.due("generators()", x.generators(), 0);
            Check.due("size()", x.size(), 1);
        }
    }

    private static void countsOfGenerators() {
        for (int n = 1; n <= 7; n++) {
            made(0x2222222 >> 4 * (7 - n), n, 1 << n);
        }
    }

    private interface Answer {
        int of(CollectedGroup x);
    }

    private static void inEveryState(String name, int want, Answer answer) {
        CollectedGroup x = new CollectedGroup(0x532);
        Check.due(name + ", new", answer.of(x), want);
        x.fix();
        Check.due(name + ", fixed", answer.of(x), want);
        x.release();
        Check.due(name + ", released", answer.of(x), want);
        x.conjugate(0, 1, 0);
        x.fix();
        Check.due(name + ", fix refused", answer.of(x), want);
    }

    private static void generatorsInEveryState() {
        inEveryState("generators()", 3, CollectedGroup::generators);
    }

    private static void sizes() {
        Check.due("size()", new CollectedGroup(0).size(), 1);
        Check.due("size()", new CollectedGroup(0x2).size(), 2);
        Check.due("size()", new CollectedGroup(0xD).size(), 13);
        Check.due("size()", new CollectedGroup(0x7332).size(), 126);
        Check.due("size()", new CollectedGroup(0x2222222).size(), 128);
    }

    private static void sizeInEveryState() {
        inEveryState("size()", 30, CollectedGroup::size);
    }

    private static void outermostGenerators() {
        CollectedGroup x = new CollectedGroup(0x7332);
        Check.due("generator(0)", x.generator(0), 63);
        Check.due("generator(3)", x.generator(3), 1);
        CollectedGroup y = new CollectedGroup(0x2222222);
        Check.due("generator(0)", y.generator(0), 64);
        Check.due("generator(6)", y.generator(6), 1);
        CollectedGroup z = new CollectedGroup(0xD);
        Check.due("generator(0) alone", z.generator(0), 1);
        Check.due("generator(1)", z.generator(1), NONE);
    }

    private static void noGenerator(int... wrong) {
        CollectedGroup x = new CollectedGroup(0x532);
        for (int i : wrong) {
            Check.due("generator(" + i + ")", x.generator(i), NONE);
        }
        x.fix();
        for (int i : wrong) {
            Check.due("generator(" + i + "), fixed", x.generator(i), NONE);
        }
    }

    private static void noGeneratorAtAll() {
        CollectedGroup x = new CollectedGroup(0);
        for (int i : new int[] {0, 1, 6, 7, -1, LEAST, MOST}) {
            Check.due("generator(" + i + ")", x.generator(i), NONE);
        }
    }

    private static void generatorInEveryState() {
        inEveryState("generator(0)", 15, x -> x.generator(0));
        inEveryState("generator(1)", 5, x -> x.generator(1));
        inEveryState("generator(2)", 1, x -> x.generator(2));
        inEveryState("generator(3)", NONE, x -> x.generator(3));
    }

    private static void powerAccepts() {
        CollectedGroup x = new CollectedGroup(0x532);
        int[] weights = {15, 5, 1};
        for (int i = 0; i < 3; i++) {
            for (int w = 0; w < weights[i]; w++) {
                Check.due("power(" + i + ", " + w + ")", x.power(i, w), true);
            }
        }
        Check.due("fix()", x.fix(), true);
        Check.due("twice g(0)", x.times(15, 2), 14);
        Check.due("three times g(1)", x.times(5, 3), 4);
        Check.due("five times g(2)", x.times(1, 5), 0);
    }

    private static void powerLastCounts() {
        CollectedGroup x = new CollectedGroup(0x52);
        Check.due("power(0, 4)", x.power(0, 4), true);
        Check.due("power(0, 3)", x.power(0, 3), true);
        Check.due("power(0, 3) again", x.power(0, 3), true);
        Check.due("fix()", x.fix(), true);
        Check.due("twice g(0)", x.times(5, 2), 3);
    }

    private static void powerFixed() {
        CollectedGroup x = Groups.plain(0x52);
        for (int w = 0; w < 5; w++) {
            Check.due("power(0, " + w + ")", x.power(0, w), false);
        }
        Check.due("power(1, 0)", x.power(1, 0), false);
        x.release();
        Check.due("power(0, 4), released", x.power(0, 4), true);
    }

    private static void powerRefused(int w, int... wrong) {
        CollectedGroup x = new CollectedGroup(0x532);
        for (int i : wrong) {
            Check.due("power(" + i + ", " + w + ")", x.power(i, w), false);
        }
    }

    private static void powerOfNone() {
        CollectedGroup x = new CollectedGroup(0);
        for (int i : new int[] {0, 1, -1, 6, LEAST, MOST}) {
            Check.due("power(" + i + ", 0)", x.power(i, 0), false);
        }
    }

    private static void powerBelowZero() {
        CollectedGroup x = new CollectedGroup(0x532);
        for (int i = 0; i < 3; i++) {
            for (int w : new int[] {-1, -2, -15, LEAST}) {
                Check.due("power(" + i + ", " + w + ")", x.power(i, w), false);
            }
        }
    }

    private static void powerTooLarge() {
        CollectedGroup x = new CollectedGroup(0x532);
        int[] weights = {15, 5, 1};
        for (int i = 0; i < 3; i++) {
            for (int w : new int[] {weights[i], weights[i] + 1, 29, 30, MOST}) {
                Check.due("power(" + i + ", " + w + ")", x.power(i, w), false);
            }
        }
    }

    private static void conjugateAccepts() {
        CollectedGroup x = new CollectedGroup(0x532);
        for (int w = 0; w < 15; w++) {
            Check.due("conjugate(0, 1, " + w + ")", x.conjugate(0, 1, w), true);
            Check.due("conjugate(0, 2, " + w + ")", x.conjugate(0, 2, w), true);
        }
        for (int w = 0; w < 5; w++) {
            Check.due("conjugate(1, 2, " + w + ")", x.conjugate(1, 2, w), true);
        }
        CollectedGroup y = new CollectedGroup(0x2222222);
        Check.due("conjugate(0, 6, 63)", y.conjugate(0, 6, 63), true);
        Check.due("conjugate(5, 6, 1)", y.conjugate(5, 6, 1), true);
        Check.due("conjugate(5, 6, 0)", y.conjugate(5, 6, 0), true);
    }

    private static void conjugateLastCounts() {
        CollectedGroup x = new CollectedGroup(0x73);
        Check.due("conjugate(0, 1, 4)", x.conjugate(0, 1, 4), true);
        Check.due("conjugate(0, 1, 2)", x.conjugate(0, 1, 2), true);
        Check.due("conjugate(0, 1, 2) again", x.conjugate(0, 1, 2), true);
        Check.due("fix()", x.fix(), true);
        Check.due("g(1) by g(0)", x.conjugated(1, 7), 2);
    }

    private static void conjugateFixed() {
        CollectedGroup x = Groups.plain(0x532);
        Check.due("conjugate(0, 1, 5)", x.conjugate(0, 1, 5), false);
        Check.due("conjugate(0, 1, 10)", x.conjugate(0, 1, 10), false);
        Check.due("conjugate(1, 2, 1)", x.conjugate(1, 2, 1), false);
        x.release();
        Check.due("conjugate(0, 1, 10), released", x.conjugate(0, 1, 10), true);
    }

    private static void conjugateRefused(CollectedGroup x, int i, int j, int w) {
        Check.due("conjugate(" + i + ", " + j + ", " + w + ")", x.conjugate(i, j, w), false);
    }

    private static void conjugateNoI() {
        CollectedGroup x = new CollectedGroup(0x532);
        for (int j = 0; j < 3; j++) {
            conjugateRefused(x, -1, j, 0);
            conjugateRefused(x, -7, j, 0);
            conjugateRefused(x, LEAST, j, 0);
        }
    }

    private static void conjugateNoJ() {
        CollectedGroup x = new CollectedGroup(0x532);
        for (int i = 0; i < 3; i++) {
            conjugateRefused(x, i, 3, 0);
            conjugateRefused(x, i, 7, 0);
            conjugateRefused(x, i, MOST, 0);
            conjugateRefused(x, i, -1, 0);
        }
        conjugateRefused(x, 3, 4, 0);
        conjugateRefused(x, -2, -1, 0);
        conjugateRefused(x, LEAST, MOST, 0);
    }

    private static void conjugateOfNone() {
        CollectedGroup x = new CollectedGroup(0);
        conjugateRefused(x, 0, 1, 0);
        conjugateRefused(x, 0, 0, 0);
        CollectedGroup y = new CollectedGroup(0x2);
        conjugateRefused(y, 0, 1, 0);
        conjugateRefused(y, 0, 0, 0);
        conjugateRefused(y, -1, 0, 0);
    }

    private static void conjugateSame() {
        CollectedGroup x = new CollectedGroup(0x532);
        for (int i = 0; i < 3; i++) {
            conjugateRefused(x, i, i, 0);
        }
    }

    private static void conjugateGreater() {
        CollectedGroup x = new CollectedGroup(0x532);
        conjugateRefused(x, 1, 0, 0);
        conjugateRefused(x, 1, 0, 4);
        conjugateRefused(x, 2, 1, 0);
        conjugateRefused(x, 2, 0, 0);
    }

    private static void conjugateBelowZero() {
        CollectedGroup x = new CollectedGroup(0x532);
        for (int w : new int[] {-1, -2, -15, LEAST}) {
            conjugateRefused(x, 0, 1, w);
            conjugateRefused(x, 0, 2, w);
            conjugateRefused(x, 1, 2, w);
        }
    }

    /** Below t(i), not t(j) and not N. */
    private static void conjugateTooLarge() {
        CollectedGroup x = new CollectedGroup(0x532);
        for (int w : new int[] {15, 16, 29, 30, MOST}) {
            conjugateRefused(x, 0, 1, w);
            conjugateRefused(x, 0, 2, w);
            conjugateRefused(x, 1, 2, w);
        }
        conjugateRefused(x, 1, 2, 5);
        conjugateRefused(x, 1, 2, 14);
    }

    private static void fixAnswers(CollectedGroup x, boolean want) {
        Check.due("fix()", x.fix(), want);
        Check.due("fixed()", x.fixed(), want);
    }

    private static void fixOne() {
        fixAnswers(new CollectedGroup(0), true);
        fixAnswers(new CollectedGroup(-1), true);
    }

    private static void fixSingle() {
        for (int prime : new int[] {2, 3, 5, 7, 11, 13}) {
            fixAnswers(new CollectedGroup(prime), true);
        }
    }

    private static void fixLargest() {
        fixAnswers(new CollectedGroup(0x2222222), true);
        fixAnswers(new CollectedGroup(0x7332), true);
        CollectedGroup x = new CollectedGroup(0x2222222);
        x.conjugate(0, 6, 0);
        fixAnswers(x, false);
    }

    private static void fixLostLetter() {
        CollectedGroup x = new CollectedGroup(0x22);
        x.conjugate(0, 1, 0);
        fixAnswers(x, false);
        CollectedGroup y = new CollectedGroup(0x232);
        y.conjugate(1, 2, 0);
        fixAnswers(y, false);
    }

    private static void fixMerged() {
        CollectedGroup x = new CollectedGroup(0x332);
        x.conjugate(0, 1, 1);
        x.conjugate(0, 2, 1);
        fixAnswers(x, false);
        // With the order of g(0) 3 instead of 2 it is no better.
        CollectedGroup y = new CollectedGroup(0x223);
        y.conjugate(0, 1, 1);
        y.conjugate(0, 2, 1);
        fixAnswers(y, false);
    }

    private static void fixChangedPower() {
        CollectedGroup x = new CollectedGroup(0x32);
        x.conjugate(0, 1, 2);
        x.power(0, 1);
        fixAnswers(x, false);
        x.power(0, 2);
        fixAnswers(x, false);
        x.power(0, 0);
        fixAnswers(x, true);
    }

    private static void fixTurns() {
        // The turns of 7 by 1, 2 and 4 come back after three times, the others do not.
        boolean[] due = {false, true, true, false, true, false, false};
        for (int w = 0; w < 7; w++) {
            CollectedGroup x = new CollectedGroup(0x73);
            x.conjugate(0, 1, w);
            fixAnswers(x, due[w]);
        }
    }

    /** Twice g(0) is g(1), and g(0) takes g(2) to twice g(2): g(1) has to take it to four times g(2). */
    private static void fixTurnByPower() {
        CollectedGroup x = new CollectedGroup(0x522);
        x.power(0, 5);
        x.conjugate(1, 2, 4);
        x.conjugate(0, 2, 2);
        fixAnswers(x, true);
        Check.due("order of g(0)", x.order(10), 4);
        CollectedGroup y = new CollectedGroup(0x522);
        y.conjugate(1, 2, 4);
        y.conjugate(0, 2, 2);
        fixAnswers(y, false);
        CollectedGroup z = new CollectedGroup(0x522);
        z.power(0, 5);
        z.conjugate(1, 2, 4);
        fixAnswers(z, false);
    }

    private static void fixBrokenPower() {
        // g(1) has order 4 and g(2) order 2: they cannot change places.
        CollectedGroup x = new CollectedGroup(0x222);
        x.power(1, 1);
        x.conjugate(0, 1, 1);
        x.conjugate(0, 2, 2);
        fixAnswers(x, false);
        x.power(1, 0);
        fixAnswers(x, true);
    }

    private static void fixBrokenConjugate() {
        // g(1) turns g(3) and leaves g(2); g(0) exchanges g(2) and g(3) and leaves g(1).
        CollectedGroup x = new CollectedGroup(0x3322);
        x.conjugate(1, 3, 2);
        x.conjugate(0, 2, 1);
        x.conjugate(0, 3, 3);
        fixAnswers(x, false);
        x.conjugate(1, 2, 6);
        fixAnswers(x, true);
    }

    private static void fixBehind() {
        CollectedGroup x = new CollectedGroup(0x7222);
        x.conjugate(2, 3, 2);
        fixAnswers(x, false);
        x.conjugate(2, 3, 6);
        fixAnswers(x, true);
    }

    private static void fixRefusedNotFixed() {
        CollectedGroup x = new CollectedGroup(0x32);
        x.conjugate(0, 1, 0);
        Check.due("fix()", x.fix(), false);
        Check.due("fixed()", x.fixed(), false);
        Check.due("count(0)", x.count(0), NONE);
        Check.due("has(0, 0)", x.has(0, 0), false);
        Check.due("conjugate is still taken", x.conjugate(0, 1, 1), true);
    }

    private static void allPlacesEmpty(CollectedGroup x, int n) {
        for (int s = 0; s < 4; s++) {
            Check.due("count(" + s + ")", x.count(s), 1);
            for (int a = 0; a < n; a++) {
                Check.due("has(" + s + ", " + a + ")", x.has(s, a), a == 0);
            }
        }
    }

    private static void fixEmptiesPlaces() {
        CollectedGroup x = Groups.symmetric3();
        allPlacesEmpty(x, 6);
        for (int s = 0; s < 4; s++) {
            x.join(s, 1);
            x.join(s, 3);
            Check.due("full place " + s, x.count(s), 6);
        }
        x.release();
        Check.due("fix()", x.fix(), true);
        allPlacesEmpty(x, 6);
        // What was in them plays no part in what comes next.
        Check.due("join(0, 3)", x.join(0, 3), 2);
        Check.due("spread(1)", x.spread(1), 1);
        Check.due("commute(2, 3, 2)", x.commute(2, 3, 2), 1);
    }

    private static void fixEmptiesChanged() {
        CollectedGroup x = Groups.symmetric3();
        x.join(3, 4);
        x.release();
        x.conjugate(0, 1, 1);
        Check.due("fix()", x.fix(), true);
        allPlacesEmpty(x, 6);
        Check.due("join(3, 4)", x.join(3, 4), 6);
    }

    private static void fixTwice() {
        CollectedGroup x = Groups.symmetric3();
        x.join(0, 3);
        x.join(1, 1);
        x.join(2, 5);
        x.join(3, 1);
        x.join(3, 4);
        String before = View.of(x);
        Check.due("fix()", x.fix(), true);
        Check.due("what is seen", View.of(x), before);
    }

    private static void fixTwiceAnswers() {
        CollectedGroup x = Groups.symmetric3();
        Check.due("fix()", x.fix(), true);
        Check.due("power refused", x.power(0, 1), false);
        Check.due("fix() again", x.fix(), true);
        Check.due("fix() of one element again", Groups.one().fix(), true);
    }

    private static void fixAfterOther() {
        CollectedGroup x = Groups.symmetric3();
        x.join(0, 3);
        x.release();
        x.power(0, 1);
        fixAnswers(x, false);
        Check.due("count(0)", x.count(0), NONE);
        x.power(0, 0);
        fixAnswers(x, true);
        Check.due("count(0)", x.count(0), 1);
        Check.due("g(1) g(0)", x.product(1, 3), 5);
    }

    /** From Z128 to the first relations, and on to two groups of 8 that do not commute, by 2. */
    private static void fixChangedGroup() {
        CollectedGroup x = Groups.cyclic128();
        Check.due("Z128 join", x.join(0, 64), 128);
        x.release();
        for (int i = 0; i < 6; i++) {
            x.power(i, 0);
        }
        fixAnswers(x, true);
        Check.due("2^7 join", x.join(0, 64), 2);
        Check.due("2^7 order", x.order(127), 2);
        x.release();
        x.conjugate(0, 6, 3);
        x.conjugate(2, 4, 12);
        fixAnswers(x, true);
        Check.due("derived(0)", x.derived(0), 128);
        Check.due("derived(1)", x.derived(1), 4);
        Check.due("lower(1)", x.lower(1), 4);
        Check.due("lower(2)", x.lower(2), 1);
        Check.due("centre()", x.centre(), 8);
        Check.due("classes()", x.classes(), 50);
        Check.due("join(1, 4)", x.join(1, 4), 2);
        Check.due("spread(1)", x.spread(1), 4);
        Check.due("kin(4)", x.kin(4), 2);
    }

    private static void fixAfterRefused() {
        CollectedGroup x = Groups.symmetric4();
        x.release();
        x.power(0, 4);
        fixAnswers(x, false);
        x.power(0, 0);
        x.conjugate(0, 1, 4);
        fixAnswers(x, false);
        x.conjugate(0, 2, 2);
        x.conjugate(0, 3, 1);
        fixAnswers(x, true);
        Check.due("A4 by 2: derived(1)", x.derived(1), 4);
        Check.due("A4 by 2: centre()", x.centre(), 2);
        Check.due("A4 by 2: classes()", x.classes(), 8);
    }

    private static void releaseEnds() {
        CollectedGroup x = Groups.symmetric3();
        x.release();
        Check.due("fixed()", x.fixed(), false);
    }

    private static void releaseUnfixed() {
        CollectedGroup x = Groups.symmetric3NotFixed();
        x.release();
        Check.due("fixed()", x.fixed(), false);
        Check.due("fix()", x.fix(), true);
        Check.due("what is seen", View.of(x), View.of(Groups.symmetric3()));
        CollectedGroup one = new CollectedGroup(0);
        one.release();
        Check.due("fixed()", one.fixed(), false);
    }

    private static void releaseTwice() {
        CollectedGroup x = Groups.symmetric3();
        x.release();
        x.release();
        Check.due("fixed()", x.fixed(), false);
        Check.due("fix()", x.fix(), true);
        Check.due("what is seen", View.of(x), View.of(Groups.symmetric3()));
    }

    private static void releaseKeepsRelations() {
        CollectedGroup x = Groups.quaternions();
        x.release();
        Check.due("fix()", x.fix(), true);
        Check.due("p(0)", x.product(4, 4), 1);
        Check.due("p(1)", x.product(2, 2), 1);
        Check.due("g(1) g(0)", x.product(2, 4), 7);
        // They are not put back to the first ones, and a change of one leaves the others.
        x.release();
        Check.due("power(0, 0)", x.power(0, 0), true);
        Check.due("fix()", x.fix(), true);
        Check.due("p(0)", x.product(4, 4), 0);
        Check.due("p(1)", x.product(2, 2), 1);
        Check.due("g(1) g(0)", x.product(2, 4), 7);
    }

    private static void releaseHas() {
        CollectedGroup x = Groups.symmetric3();
        for (int s = 0; s < 4; s++) {
            x.join(s, 3);
            x.join(s, 1);
        }
        x.release();
        for (int s = 0; s < 4; s++) {
            for (int a = 0; a < 6; a++) {
                Check.due("has(" + s + ", " + a + ")", x.has(s, a), false);
            }
        }
    }

    private static void releaseNone() {
        for (FixedCall call : FixedCall.values()) {
            CollectedGroup x = Groups.symmetric3();
            x.release();
            int[] zeros = new int[call.kinds.length()];
            Check.due(call.named(zeros), call.answer(x, zeros), call.refusal());
            Check.due("fix()", x.fix(), true);
            Check.due(call.named(zeros) + " is answered", call.answer(x, zeros) != call.refusal(), true);
        }
    }

    private static void releaseOpens() {
        CollectedGroup x = Groups.symmetric3();
        Check.due("power(0, 0), fixed", x.power(0, 0), false);
        x.release();
        Check.due("power(0, 0)", x.power(0, 0), true);
        Check.due("conjugate(0, 1, 1)", x.conjugate(0, 1, 1), true);
    }

    private static void fixedAfterFix() {
        CollectedGroup x = new CollectedGroup(0x32);
        x.fix();
        Check.due("fixed()", x.fixed(), true);
        x.fix();
        Check.due("fixed() after two", x.fixed(), true);
        x.power(0, 7);
        x.product(9, 9);
        Check.due("fixed() after refused calls", x.fixed(), true);
    }

    private static void fixedAfterRefused() {
        CollectedGroup x = new CollectedGroup(0x32);
        x.conjugate(0, 1, 0);
        x.fix();
        Check.due("fixed()", x.fixed(), false);
    }

    private static void fixedAfterRelease() {
        CollectedGroup x = Groups.symmetric3();
        x.release();
        Check.due("fixed()", x.fixed(), false);
        x.fix();
        Check.due("fixed()", x.fixed(), true);
    }
}
