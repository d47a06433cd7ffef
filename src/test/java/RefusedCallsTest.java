/** Terms: what (F) stands for, call by call and argument by argument, and that refused calls change nothing. */
public final class RefusedCallsTest {
    private static final int NONE = CollectedGroup.NONE;
    private static final int LEAST = Integer.MIN_VALUE;
    private static final int MOST = Integer.MAX_VALUE;

    public static void main(String[] args) {
        for (FixedCall call : FixedCall.values()) {
            String from = "Terms (F), " + call.promise;
            Check.sentence(from, "NONE when the relations aren't fixed: yet", () -> newObject(call));
            Check.sentence(from, "NONE when the relations aren't fixed: any more", () -> released(call));
            Check.sentence(from, "NONE when the relations aren't fixed: fix refused", () -> notConsistent(call));
            Check.sentence(from, "not NONE once they are fixed again", () -> fixedAgain(call));
            Check.sentence(from, "changes nothing when the relations aren't fixed", () -> unfixedChangesNothing(call));
            if (call.takes('e')) {
                Check.sentence(from, "NONE when an element isn't 0 .. N - 1", () -> wrongElement(call));
                Check.sentence(from, "0 and N - 1 are elements", () -> outermostElements(call));
                Check.sentence(from, "changes nothing when refused for an element",
                    () -> wrongArgumentChangesNothing(call, 'e', -1, 6, LEAST, MOST));
            }
            if (call.takes('p')) {
                Check.sentence(from, "NONE when a place isn't 0 .. 3", () -> wrongPlace(call));
                Check.sentence(from, "0 and 3 are places", () -> outermostPlaces(call));
                Check.sentence(from, "changes nothing when refused for a place",
                    () -> wrongArgumentChangesNothing(call, 'p', -1, 4, LEAST, MOST));
            }
        }
        Check.sentence("Terms, Promise 5", "a call that is refused changes nothing", RefusedCallsTest::refusedPower);
        Check.sentence("Terms, Promise 5", "a call that is refused changes nothing: fixed",
            RefusedCallsTest::refusedPowerFixed);
        Check.sentence("Terms, Promise 6", "a call that is refused changes nothing",
            RefusedCallsTest::refusedConjugate);
        Check.sentence("Terms, Promise 6", "a call that is refused changes nothing: fixed",
            RefusedCallsTest::refusedConjugateFixed);
        Check.sentence("Terms, Promise 7", "a call that is refused changes nothing", RefusedCallsTest::refusedFix);
        Check.sentence("Terms, Promise 4", "a call that is refused changes nothing",
            RefusedCallsTest::refusedGenerator);
        Check.sentence("Terms, Promise 21", "changes nothing when refused for a k below 0",
            () -> wrongArgumentChangesNothing(FixedCall.DERIVED, 'n', -1, LEAST));
        Check.sentence("Terms, Promise 22", "changes nothing when refused for a k below 0",
            () -> wrongArgumentChangesNothing(FixedCall.LOWER, 'n', -1, LEAST));
        Check.sentence("The public face", "NONE = -1", () -> Check.due("NONE", NONE, -1));
        Check.end();
    }

    private static void refused(FixedCall call, CollectedGroup x, int... arguments) {
        Check.due(call.named(arguments), call.answer(x, arguments), call.refusal());
    }

    private static int[] allAs(FixedCall call, int element, int place, int number) {
        int[] arguments = new int[call.kinds.length()];
        for (int k = 0; k < arguments.length; k++) {
            char kind = call.kinds.charAt(k);
            arguments[k] = kind == 'e' ? element : kind == 'p' ? place : number;
        }
        return arguments;
    }

    private static void refusedUnfixed(FixedCall call, CollectedGroup x) {
        refused(call, x, allAs(call, 0, 0, 0));
        refused(call, x, allAs(call, x.size() - 1, 3, 1));
        refused(call, x, allAs(call, x.size(), 4, -1));
        refused(call, x, allAs(call, MOST, MOST, MOST));
        refused(call, x, allAs(call, LEAST, LEAST, LEAST));
    }

    private static void newObject(FixedCall call) {
        refusedUnfixed(call, new CollectedGroup(0));
        refusedUnfixed(call, new CollectedGroup(0x2));
        refusedUnfixed(call, new CollectedGroup(0x2222222));
        refusedUnfixed(call, Groups.symmetric3NotFixed());
    }

    private static void released(FixedCall call) {
        for (CollectedGroup x : new CollectedGroup[] {Groups.one(), Groups.symmetric3(), Groups.cyclic128()}) {
            x.release();
            refusedUnfixed(call, x);
        }
    }

    private static void notConsistent(FixedCall call) {
        CollectedGroup x = Groups.symmetric3();
        x.release();
        Check.due("power(0, 1)", x.power(0, 1), true);
        Check.due("fix()", x.fix(), false);
        refusedUnfixed(call, x);
        CollectedGroup y = new CollectedGroup(0x32);
        Check.due("conjugate(0, 1, 0)", y.conjugate(0, 1, 0), true);
        Check.due("fix()", y.fix(), false);
        refusedUnfixed(call, y);
    }

    private static void fixedAgain(FixedCall call) {
        CollectedGroup x = Groups.symmetric3();
        int[] arguments = allAs(call, 0, 0, 0);
        int before = call.answer(x, arguments);
        Check.due(call.named(arguments) + " is answered", before != call.refusal(), true);
        x.release();
        Check.due("fix()", x.fix(), true);
        Check.due(call.named(arguments), call.answer(x, arguments), before);
    }

    private static void unfixedChangesNothing(FixedCall call) {
        CollectedGroup x = Groups.symmetric3NotFixed();
        String before = View.of(x);
        refusedUnfixed(call, x);
        Check.due("what is seen", View.of(x), before);
        Check.due("fix()", x.fix(), true);
        Check.due("what is seen once fixed", View.of(x), View.of(Groups.symmetric3()));
    }

    private static void wrongElement(FixedCall call) {
        for (CollectedGroup x : Groups.ofSizes1And2And6And128()) {
            int n = x.size();
            for (int wrong : new int[] {-1, -n, n, n + 1, 2 * n, 1 << 16, LEAST, LEAST + n - 1, MOST}) {
                replaceEach(call, 'e', wrong, allAs(call, 0, 0, 1), x);
                replaceEach(call, 'e', wrong, allAs(call, n - 1, 3, 0), x);
            }
        }
    }

    private static void wrongPlace(FixedCall call) {
        for (CollectedGroup x : new CollectedGroup[] {Groups.one(), Groups.symmetric3(), Groups.cyclic128()}) {
            for (int wrong : new int[] {-1, -4, 4, 5, 8, 1 << 16, LEAST, MOST}) {
                replaceEach(call, 'p', wrong, allAs(call, 0, 0, 1), x);
                replaceEach(call, 'p', wrong, allAs(call, x.size() - 1, 3, 0), x);
            }
        }
    }

    /** Every argument of the kind alone is wrong, and then all of them are. */
    private static void replaceEach(FixedCall call, char kind, int wrong, int[] good, CollectedGroup x) {
        int[] all = good.clone();
        for (int k = 0; k < good.length; k++) {
            if (call.kinds.charAt(k) == kind) {
                int[] one = good.clone();
                one[k] = wrong;
                all[k] = wrong;
                refused(call, x, one);
            }
        }
        refused(call, x, all);
    }

    private static void outermostElements(FixedCall call) {
        for (CollectedGroup x : Groups.ofSizes1And2And6And128()) {
            for (int a : new int[] {0, x.size() - 1}) {
                x.join(1, a);
                int[] arguments = allAs(call, a, 1, 1);
                Check.due(call.named(arguments) + " is answered", call.answer(x, arguments) != call.refusal(), true);
            }
        }
    }

    private static void outermostPlaces(FixedCall call) {
        CollectedGroup x = Groups.symmetric3();
        for (int s : new int[] {0, 1, 2, 3}) {
            int[] arguments = allAs(call, 0, s, 1);
            Check.due(call.named(arguments) + " is answered", call.answer(x, arguments) != call.refusal(), true);
        }
    }

    /** With something in every place, so that whatever were written would be seen. */
    private static CollectedGroup withPlaces() {
        CollectedGroup x = Groups.symmetric3();
        Check.due("join(0, 3)", x.join(0, 3), 2);
        Check.due("join(1, 1)", x.join(1, 1), 3);
        Check.due("join(2, 5)", x.join(2, 5), 2);
        Check.due("join(3, 4)", x.join(3, 4), 2);
        return x;
    }

    private static void wrongArgumentChangesNothing(FixedCall call, char kind, int... wrong) {
        for (int value : wrong) {
            for (int place = 0; place < 4; place++) {
                CollectedGroup x = withPlaces();
                String before = View.of(x);
                replaceEach(call, kind, value, allAs(call, 2, place, 1), x);
                Check.due("what is seen after " + value, View.of(x), before);
            }
        }
    }

    private static void refusedPower() {
        CollectedGroup x = Groups.symmetric3NotFixed();
        int[][] wrong = {{0, 3}, {0, -1}, {0, LEAST}, {0, MOST}, {1, 1}, {1, -1}, {2, 0}, {-1, 0},
            {LEAST, 1}, {MOST, 1}};
        for (int[] v : wrong) {
            Check.due("power(" + v[0] + ", " + v[1] + ")", x.power(v[0], v[1]), false);
        }
        Check.due("fix()", x.fix(), true);
        Check.due("what is seen", View.of(x), View.of(Groups.symmetric3()));
    }

    private static void refusedPowerFixed() {
        CollectedGroup x = withPlaces();
        String before = View.of(x);
        Check.due("power(0, 1)", x.power(0, 1), false);
        Check.due("power(0, 0)", x.power(0, 0), false);
        Check.due("what is seen", View.of(x), before);
        x.release();
        Check.due("fix()", x.fix(), true);
        Check.due("twice g(0)", x.times(3, 2), 0);
    }

    private static void refusedConjugate() {
        CollectedGroup x = Groups.symmetric3NotFixed();
        int[][] wrong = {{0, 1, 3}, {0, 1, -1}, {0, 1, LEAST}, {0, 1, MOST}, {0, 0, 1}, {1, 1, 0}, {1, 0, 0}, {1, 0, 1},
            {0, 2, 1}, {-1, 0, 1}, {-1, 1, 1}, {1, 2, 0}, {2, 3, 0}, {LEAST, 1, 1}, {0, MOST, 1}, {0, LEAST, 1}};
        for (int[] v : wrong) {
            String name = "conjugate(" + v[0] + ", " + v[1] + ", " + v[2] + ")";
            Check.due(name, x.conjugate(v[0], v[1], v[2]), false);
        }
        Check.due("fix()", x.fix(), true);
        Check.due("what is seen", View.of(x), View.of(Groups.symmetric3()));
    }

    private static void refusedConjugateFixed() {
        CollectedGroup x = withPlaces();
        String before = View.of(x);
        Check.due("conjugate(0, 1, 1)", x.conjugate(0, 1, 1), false);
        Check.due("conjugate(0, 1, 2)", x.conjugate(0, 1, 2), false);
        Check.due("what is seen", View.of(x), before);
        x.release();
        Check.due("fix()", x.fix(), true);
        Check.due("g(1) by g(0)", x.conjugated(1, 3), 2);
    }

    /** Two relations, one of them wrong: with that one mended the other still stands. */
    private static void refusedFix() {
        CollectedGroup x = Groups.symmetric3NotFixed();
        Check.due("power(0, 1)", x.power(0, 1), true);
        String before = View.of(x);
        Check.due("fix()", x.fix(), false);
        Check.due("what is seen", View.of(x), before);
        Check.due("fix() again", x.fix(), false);
        Check.due("power(0, 0)", x.power(0, 0), true);
        Check.due("fix(), mended", x.fix(), true);
        Check.due("what is seen, mended", View.of(x), View.of(Groups.symmetric3()));
        CollectedGroup y = new CollectedGroup(0x32);
        Check.due("power(0, 1)", y.power(0, 1), true);
        Check.due("conjugate(0, 1, 2)", y.conjugate(0, 1, 2), true);
        Check.due("fix()", y.fix(), false);
        Check.due("conjugate(0, 1, 1)", y.conjugate(0, 1, 1), true);
        Check.due("fix(), mended the other way", y.fix(), true);
        Check.due("twice g(0)", y.times(3, 2), 1);
    }

    private static void refusedGenerator() {
        CollectedGroup x = withPlaces();
        String before = View.of(x);
        for (int i : new int[] {-1, 2, LEAST, MOST}) {
            Check.due("generator(" + i + ")", x.generator(i), NONE);
        }
        Check.due("what is seen", View.of(x), before);
    }
}
