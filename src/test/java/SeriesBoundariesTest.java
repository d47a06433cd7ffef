/** Promises 21 to 26: each sentence with a boundary case has a test of its own. */
public final class SeriesBoundariesTest {
    private static final int NONE = CollectedGroup.NONE;
    private static final int LEAST = Integer.MIN_VALUE;
    private static final int MOST = Integer.MAX_VALUE;

    public static void main(String[] args) {
        Check.sentence("Promise 21", "the whole group is the 0-th", SeriesBoundariesTest::derivedZero);
        Check.sentence("Promise 21", "each further one the commutator subgroup of the one before",
            SeriesBoundariesTest::derivedSteps);
        Check.sentence("Promise 21", "k far behind the last step", SeriesBoundariesTest::derivedFar);
        Check.sentence("Promise 21", "NONE also when k is below 0", SeriesBoundariesTest::derivedBelowZero);
        Check.sentence("Promise 21", "NONE when k is below 0 and the relations aren't fixed",
            SeriesBoundariesTest::derivedNotFixed);
        Check.sentence("Promise 21", "the places play no part and stay", () -> placesStay(FixedCall.DERIVED));
        Check.sentence("Promise 22", "likewise: the whole group is the 0-th", SeriesBoundariesTest::lowerZero);
        Check.sentence("Promise 22", "the one before and the whole group", SeriesBoundariesTest::lowerSteps);
        Check.sentence("Promise 22", "a row that never comes down to 0 alone", SeriesBoundariesTest::lowerStays);
        Check.sentence("Promise 22", "the longest row that N of 128 has room for", SeriesBoundariesTest::lowerLongest);
        Check.sentence("Promise 22", "k far behind the last step", SeriesBoundariesTest::lowerFar);
        Check.sentence("Promise 22", "likewise: NONE also when k is below 0", SeriesBoundariesTest::lowerBelowZero);
        Check.sentence("Promise 22", "likewise: NONE when k is below 0 and not fixed",
            SeriesBoundariesTest::lowerNotFixed);
        Check.sentence("Promise 22", "the places play no part and stay", () -> placesStay(FixedCall.LOWER));
        Check.sentence("Promise 23", "1 when 0 alone is its own conjugate by all", SeriesBoundariesTest::centreOne);
        Check.sentence("Promise 23", "N when all are", SeriesBoundariesTest::centreAll);
        Check.sentence("Promise 23", "by all elements, not by some", SeriesBoundariesTest::centreByAll);
        Check.sentence("Promise 24", "1 with no generators", () -> Check.due("classes()", Groups.one().classes(), 1));
        Check.sentence("Promise 24", "N when the group commutes", SeriesBoundariesTest::classesAll);
        Check.sentence("Promise 24", "fewer when it does not", SeriesBoundariesTest::classesFewer);
        Check.sentence("Promise 24", "the same when asked again", SeriesBoundariesTest::classesAgain);
        Check.sentence("Promise 25", "1 for 0 and for what commutes with all", SeriesBoundariesTest::kinOne);
        Check.sentence("Promise 25", "the largest classes", SeriesBoundariesTest::kinLargest);
        Check.sentence("Promise 25", "NONE when an element isn't 0 .. N - 1", () -> noElement(FixedCall.KIN));
        Check.sentence("Promise 26", "0 for 0 alone", SeriesBoundariesTest::headZero);
        Check.sentence("Promise 26", "the least number: itself when it is the least", SeriesBoundariesTest::headItself);
        Check.sentence("Promise 26", "the least number of all in the class", SeriesBoundariesTest::headLeast);
        Check.sentence("Promise 26", "NONE when an element isn't 0 .. N - 1", () -> noElement(FixedCall.HEAD));
        Check.sentence("Promises 23 to 26", "the places play no part and stay",
            SeriesBoundariesTest::classesLeavePlaces);
        Check.end();
    }

    private static void zeroIsWhole(FixedCall call) {
        int[] sizes = {1, 2, 6, 24, 128};
        CollectedGroup[] groups = {Groups.one(), Groups.plain(0x2), Groups.symmetric3(),
            Groups.symmetric4(), Groups.cyclic128()};
        for (int k = 0; k < sizes.length; k++) {
            Check.due(call.named(0), call.answer(groups[k], 0), sizes[k]);
        }
    }

    private static void row(FixedCall call, CollectedGroup x, int... row) {
        for (int k = 0; k < row.length + 9; k++) {
            Check.due(call.named(k), call.answer(x, k), row[Math.min(k, row.length - 1)]);
        }
        // Not from the first on alone: a later one asked first is the same.
        for (int k = row.length; k >= 0; k--) {
            Check.due(call.named(k), call.answer(x, k), row[Math.min(k, row.length - 1)]);
        }
    }

    private static void far(FixedCall call, CollectedGroup x, int want) {
        for (int k : new int[] {7, 8, 128, 512, 65536, MOST - 1, MOST}) {
            Check.due(call.named(k), call.answer(x, k), want);
        }
    }

    private static void belowZero(FixedCall call, CollectedGroup x) {
        for (int k : new int[] {-1, -2, -128, LEAST + 1, LEAST}) {
            Check.due(call.named(k), call.answer(x, k), NONE);
        }
    }

    private static void noElement(FixedCall call) {
        for (CollectedGroup x : new CollectedGroup[] {Groups.one(), Groups.symmetric3(), Groups.cyclic128()}) {
            for (int a : new int[] {-1, -x.size(), x.size(), x.size() + 1, LEAST, MOST}) {
                Check.due(call.named(a), call.answer(x, a), NONE);
            }
        }
    }

    private static CollectedGroup withPlaces() {
        CollectedGroup x = Groups.symmetric3();
        x.join(0, 3);
        x.join(1, 1);
        x.join(2, 1);
        x.join(2, 3);
        return x;
    }

    private static void placesStay(FixedCall call) {
        CollectedGroup x = withPlaces();
        String before = View.of(x);
        Check.due(call.named(0), call.answer(x, 0), 6);
        Check.due(call.named(1), call.answer(x, 1), 3);
        Check.due(call.named(-1), call.answer(x, -1), NONE);
        Check.due("what is seen", View.of(x), before);
        Check.due("join(0, 3), there already", x.join(0, 3), 2);
        Check.due("spread(1)", x.spread(1), 3);
    }

    private static void derivedZero() {
        zeroIsWhole(FixedCall.DERIVED);
    }

    private static void derivedSteps() {
        row(FixedCall.DERIVED, Groups.symmetric4(), 24, 12, 4, 1);
        row(FixedCall.DERIVED, Groups.symmetric3(), 6, 3, 1);
        row(FixedCall.DERIVED, Groups.quaternions(), 8, 2, 1);
        row(FixedCall.DERIVED, Groups.dihedral128(), 128, 32, 1);
        row(FixedCall.DERIVED, Groups.cyclic128(), 128, 1);
        row(FixedCall.DERIVED, Groups.one(), 1);
    }

    private static void derivedFar() {
        far(FixedCall.DERIVED, Groups.symmetric4(), 1);
        far(FixedCall.DERIVED, Groups.dihedral128(), 1);
        far(FixedCall.DERIVED, Groups.one(), 1);
    }

    private static void derivedBelowZero() {
        belowZero(FixedCall.DERIVED, Groups.symmetric4());
        belowZero(FixedCall.DERIVED, Groups.one());
    }

    private static void derivedNotFixed() {
        belowZero(FixedCall.DERIVED, new CollectedGroup(0x32));
        Check.due("derived(0)", new CollectedGroup(0x32).derived(0), NONE);
        Check.due("derived(MAX)", new CollectedGroup(0x32).derived(MOST), NONE);
    }

    private static void lowerZero() {
        zeroIsWhole(FixedCall.LOWER);
    }

    private static void lowerSteps() {
        row(FixedCall.LOWER, Groups.quaternions(), 8, 2, 1);
        row(FixedCall.LOWER, Groups.cyclic128(), 128, 1);
        row(FixedCall.LOWER, Groups.plain(0x32), 6, 1);
        row(FixedCall.LOWER, Groups.one(), 1);
    }

    private static void lowerStays() {
        row(FixedCall.LOWER, Groups.symmetric3(), 6, 3);
        row(FixedCall.LOWER, Groups.symmetric4(), 24, 12);
        row(FixedCall.LOWER, Groups.sevenByThree(), 21, 7);
    }

    private static void lowerLongest() {
        row(FixedCall.LOWER, Groups.dihedral128(), 128, 32, 16, 8, 4, 2, 1);
    }

    private static void lowerFar() {
        far(FixedCall.LOWER, Groups.symmetric4(), 12);
        far(FixedCall.LOWER, Groups.dihedral128(), 1);
        far(FixedCall.LOWER, Groups.one(), 1);
    }

    private static void lowerBelowZero() {
        belowZero(FixedCall.LOWER, Groups.symmetric4());
        belowZero(FixedCall.LOWER, Groups.one());
    }

    private static void lowerNotFixed() {
        belowZero(FixedCall.LOWER, new CollectedGroup(0x32));
        Check.due("lower(0)", new CollectedGroup(0x32).lower(0), NONE);
        Check.due("lower(MAX)", new CollectedGroup(0x32).lower(MOST), NONE);
    }

    private static void centreOne() {
        Check.due("1", Groups.one().centre(), 1);
        Check.due("S3", Groups.symmetric3().centre(), 1);
        Check.due("S4", Groups.symmetric4().centre(), 1);
        Check.due("7:3", Groups.sevenByThree().centre(), 1);
    }

    private static void centreAll() {
        Check.due("2", Groups.plain(0x2).centre(), 2);
        Check.due("2^7", Groups.plain(0x2222222).centre(), 128);
        Check.due("Z128", Groups.cyclic128().centre(), 128);
        Check.due("126", Groups.plain(0x7332).centre(), 126);
    }

    private static void centreByAll() {
        Check.due("Q8", Groups.quaternions().centre(), 2);
        Check.due("D64", Groups.dihedral128().centre(), 2);
        // Only the last generator is moved, and only by the first.
        CollectedGroup x = new CollectedGroup(0x3222);
        x.conjugate(0, 3, 2);
        Check.due("fix()", x.fix(), true);
        Check.due("S3 by 2 by 2", x.centre(), 4);
    }

    private static void classesAll() {
        Check.due("2", Groups.plain(0x2).classes(), 2);
        Check.due("13", Groups.plain(0xD).classes(), 13);
        Check.due("2^7", Groups.plain(0x2222222).classes(), 128);
        Check.due("Z128", Groups.cyclic128().classes(), 128);
    }

    private static void classesFewer() {
        Check.due("S3", Groups.symmetric3().classes(), 3);
        Check.due("S4", Groups.symmetric4().classes(), 5);
        Check.due("Q8", Groups.quaternions().classes(), 5);
        Check.due("7:3", Groups.sevenByThree().classes(), 5);
        Check.due("D64", Groups.dihedral128().classes(), 35);
    }

    private static void classesAgain() {
        CollectedGroup x = Groups.symmetric4();
        for (int round = 0; round < 4; round++) {
            Check.due("classes()", x.classes(), 5);
            Check.due("kin(23)", x.kin(23), 6);
            Check.due("head(23)", x.head(23), 13);
        }
    }

    private static void kinOne() {
        Check.due("0 in a group of one", Groups.one().kin(0), 1);
        Check.due("0 in S4", Groups.symmetric4().kin(0), 1);
        Check.due("-1 in Q8", Groups.quaternions().kin(1), 1);
        CollectedGroup x = Groups.cyclic128();
        for (int a = 0; a < 128; a++) {
            Check.due("kin(" + a + ")", x.kin(a), 1);
        }
    }

    private static void kinLargest() {
        CollectedGroup d = Groups.dihedral128();
        Check.due("a mirror, the first", d.kin(64), 32);
        Check.due("a mirror, the last", d.kin(127), 32);
        Check.due("the turn that all leave", d.kin(1), 1);
        Check.due("another turn", d.kin(63), 2);
        Check.due("13:3", thirteenByThree().kin(13), 13);
        Check.due("13:3, g(1)", thirteenByThree().kin(12), 3);
        CollectedGroup e = elevenByFive();
        Check.due("11:5", e.kin(54), 11);
        Check.due("11:5, g(1)", e.kin(10), 5);
    }

    private static CollectedGroup thirteenByThree() {
        CollectedGroup x = new CollectedGroup(0xD3);
        Check.due("13:3 conjugate", x.conjugate(0, 1, 3), true);
        Check.due("13:3 fix", x.fix(), true);
        return x;
    }

    private static CollectedGroup elevenByFive() {
        CollectedGroup x = new CollectedGroup(0xB5);
        Check.due("11:5 conjugate", x.conjugate(0, 1, 3), true);
        Check.due("11:5 fix", x.fix(), true);
        return x;
    }

    private static void headZero() {
        for (CollectedGroup x : new CollectedGroup[] {Groups.one(), Groups.symmetric4(), Groups.dihedral128()}) {
            Check.due("head(0)", x.head(0), 0);
            for (int a = 1; a < x.size(); a++) {
                Check.due("head(" + a + ") is not 0", x.head(a) != 0, true);
            }
        }
    }

    private static void headItself() {
        CollectedGroup x = Groups.cyclic128();
        for (int a = 0; a < 128; a++) {
            Check.due("head(" + a + ")", x.head(a), a);
        }
        CollectedGroup y = Groups.symmetric4();
        for (int a : new int[] {0, 1, 4, 12, 13}) {
            Check.due("head(" + a + ") in S4", y.head(a), a);
        }
    }

    private static void headLeast() {
        CollectedGroup x = Groups.sevenByThree();
        int[] head = {0, 1, 1, 3, 1, 3, 3};
        for (int a = 0; a < 21; a++) {
            Check.due("head(" + a + ")", x.head(a), a < 7 ? head[a] : a / 7 * 7);
        }
        CollectedGroup d = Groups.dihedral128();
        Check.due("head(127)", d.head(127), 96);
        Check.due("head(95)", d.head(95), 64);
        Check.due("head(63)", d.head(63), 32);
        Check.due("head(1)", d.head(1), 1);
    }

    private static void classesLeavePlaces() {
        CollectedGroup x = withPlaces();
        String before = View.of(x);
        Check.due("centre()", x.centre(), 1);
        Check.due("classes()", x.classes(), 3);
        Check.due("kin(5)", x.kin(5), 3);
        Check.due("head(5)", x.head(5), 3);
        Check.due("what is seen", View.of(x), before);
    }
}
