/** Each promise of the document by its number: ordinary inputs, the edges it names, wrong inputs. */
public final class PromisesTest {
    private static final int NONE = CollectedGroup.NONE;
    private static final int LEAST = Integer.MIN_VALUE;
    private static final int MOST = Integer.MAX_VALUE;

    public static void main(String[] args) {
        promise1NewObject();
        promise1Relations();
        promises2To4Generators();
        promise5Power();
        promise6Conjugate();
        promise7FixRefuses();
        promise7FixTwice();
        promise7FixOtherRelations();
        promise8Release();
        promise9Fixed();
        promise10Product();
        promise11Times();
        promise12Conjugated();
        promise13Commutator();
        promise14Order();
        promise15Clear();
        promise16Join();
        promise17Spread();
        promise18Commute();
        promises19And20CountHas();
        promise21Derived();
        promise22Lower();
        promise23Centre();
        promises24To26Classes();
        refusedWhenNotFixed();
        refusedElementsAndPlaces();
        refusedCallsChangeNothing();
        groupOfOne();
        groupsOfTheLargestSize();
        Check.end();
    }

    private static void made(int orders, int generators, int size) {
        CollectedGroup x = new CollectedGroup(orders);
        String name = "new CollectedGroup(0x" + Integer.toHexString(orders) + ")";
        Check.due(name + ".generators()", x.generators(), generators);
        Check.due(name + ".size()", x.size(), size);
        Check.due(name + ".fixed()", x.fixed(), false);
    }

    private static void promise1NewObject() {
        int[] primes = {2, 3, 5, 7, 11, 13};
        int[] others = {0, 1, 4, 6, 8, 9, 10, 12, 14, 15};
        for (int p : primes) {
            made(p, 1, p);
        }
        for (int d : others) {
            made(d, 0, 1);
            made(d << 4 | 3, 1, 3);
            made(0x200 | d << 4 | 3, 1, 3);
            made(0x20 | d, 0, 1);
        }
        made(0x32, 2, 6);
        made(0x235, 3, 30);
        made(0x2222222, 7, 128);
        made(0x22222222, 7, 128);
        made(0xB2222222, 7, 128);
        made(0xF2222223, 6, 96);
        made(0x80000002, 1, 2);
        made(-1, 0, 1);
        made(LEAST, 0, 1);
        made(MOST, 0, 1);
        made(0xBB, 2, 121);
        made(0x2BB, 2, 121);
        made(0xDD, 1, 13);
        made(0x7DD, 1, 13);
        made(0x27DD, 1, 13);
        made(0x555, 3, 125);
        made(0x2555, 3, 125);
        made(0x3333333, 4, 81);
        made(0x72333, 4, 54);
        made(0x532222, 5, 48);
        made(0x732, 3, 42);
        made(0x37D, 2, 91);
    }

    private static void promise1Relations() {
        CollectedGroup x = new CollectedGroup(0x32);
        Check.due("first relations fix", x.fix(), true);
        for (int a = 0; a < 6; a++) {
            for (int b = 0; b < 6; b++) {
                int want = (a / 3 + b / 3) % 2 * 3 + (a % 3 + b % 3) % 3;
                Check.due("first relations product", x.product(a, b), want);
            }
        }
    }

    private static void promises2To4Generators() {
        CollectedGroup x = new CollectedGroup(0x2573);
        Check.due("generators()", x.generators(), 3);
        Check.due("size()", x.size(), 105);
        Check.due("generator(0)", x.generator(0), 35);
        Check.due("generator(1)", x.generator(1), 5);
        Check.due("generator(2)", x.generator(2), 1);
        for (int i : new int[] {3, 4, 7, -1, LEAST, MOST}) {
            Check.due("generator(" + i + ")", x.generator(i), NONE);
        }
        Check.due("fix", x.fix(), true);
        Check.due("fixed generator(0)", x.generator(0), 35);
        Check.due("fixed generators()", x.generators(), 3);
        Check.due("fixed size()", x.size(), 105);
        CollectedGroup none = new CollectedGroup(0);
        Check.due("none generators()", none.generators(), 0);
        Check.due("none size()", none.size(), 1);
        Check.due("none generator(0)", none.generator(0), NONE);
    }

    private static void promise5Power() {
        CollectedGroup x = new CollectedGroup(0x232);
        Check.due("power(0, 5)", x.power(0, 5), true);
        Check.due("power(0, 0)", x.power(0, 0), true);
        Check.due("power(0, 6)", x.power(0, 6), false);
        Check.due("power(0, -1)", x.power(0, -1), false);
        Check.due("power(0, MIN)", x.power(0, LEAST), false);
        Check.due("power(0, MAX)", x.power(0, MOST), false);
        Check.due("power(1, 1)", x.power(1, 1), true);
        Check.due("power(1, 2)", x.power(1, 2), false);
        Check.due("power(2, 0)", x.power(2, 0), true);
        Check.due("power(2, 1)", x.power(2, 1), false);
        Check.due("power(3, 0)", x.power(3, 0), false);
        Check.due("power(-1, 0)", x.power(-1, 0), false);
        Check.due("power(MIN, 0)", x.power(LEAST, 0), false);
        Check.due("power(MAX, 0)", x.power(MOST, 0), false);
        Check.due("fix", x.fix(), true);
        Check.due("order of g(1), whose power is g(2)", x.order(2), 6);
        Check.due("g(1) three times", x.times(2, 3), 1);
        Check.due("fixed power(1, 0)", x.power(1, 0), false);
        Check.due("fixed g(1) three times", x.times(2, 3), 1);
        x.release();
        Check.due("released power(1, 0)", x.power(1, 0), true);
        Check.due("fix again", x.fix(), true);
        Check.due("g(1) three times, changed", x.times(2, 3), 0);
        Check.due("no generators: power(0, 0)", new CollectedGroup(0).power(0, 0), false);
    }

    private static void promise6Conjugate() {
        CollectedGroup x = new CollectedGroup(0x332);
        Check.due("conjugate(0, 0, 0)", x.conjugate(0, 0, 0), false);
        Check.due("conjugate(1, 0, 0)", x.conjugate(1, 0, 0), false);
        Check.due("conjugate(2, 1, 0)", x.conjugate(2, 1, 0), false);
        Check.due("conjugate(0, 3, 0)", x.conjugate(0, 3, 0), false);
        Check.due("conjugate(-1, 1, 0)", x.conjugate(-1, 1, 0), false);
        Check.due("conjugate(MIN, MAX, 0)", x.conjugate(LEAST, MOST, 0), false);
        Check.due("conjugate(2, 3, 0)", x.conjugate(2, 3, 0), false);
        Check.due("conjugate(0, 1, 9)", x.conjugate(0, 1, 9), false);
        Check.due("conjugate(0, 1, -1)", x.conjugate(0, 1, -1), false);
        Check.due("conjugate(0, 2, MAX)", x.conjugate(0, 2, MOST), false);
        Check.due("conjugate(1, 2, 3)", x.conjugate(1, 2, 3), false);
        Check.due("conjugate(1, 2, 2)", x.conjugate(1, 2, 2), true);
        Check.due("conjugate(1, 2, 1)", x.conjugate(1, 2, 1), true);
        Check.due("conjugate(0, 1, 8)", x.conjugate(0, 1, 8), true);
        // g(0) changes g(1) and g(2) for one another: the words are below t(0), not below t(1).
        Check.due("conjugate(0, 1, 1)", x.conjugate(0, 1, 1), true);
        Check.due("conjugate(0, 2, 3)", x.conjugate(0, 2, 3), true);
        Check.due("fix", x.fix(), true);
        Check.due("g(1) by g(0)", x.conjugated(3, 9), 1);
        Check.due("g(2) by g(0)", x.conjugated(1, 9), 3);
        Check.due("g(1) g(0)", x.product(3, 9), 10);
        Check.due("fixed conjugate(0, 1, 3)", x.conjugate(0, 1, 3), false);
        Check.due("fixed g(1) by g(0)", x.conjugated(3, 9), 1);
        x.release();
        Check.due("conjugate(0, 1, 3)", x.conjugate(0, 1, 3), true);
        Check.due("only one of the two: fix", x.fix(), false);
        Check.due("conjugate(0, 2, 1)", x.conjugate(0, 2, 1), true);
        Check.due("fix commuting", x.fix(), true);
        Check.due("g(1) by g(0), commuting", x.conjugated(3, 9), 3);
    }

    private static void promise7FixRefuses() {
        CollectedGroup x = new CollectedGroup(0x52);
        int[] consistent = {0, 1, 0, 0, 1};
        for (int w = 0; w < 5; w++) {
            Check.due("conjugate", x.conjugate(0, 1, w), true);
            Check.due("5:2 by " + w, x.fix(), consistent[w] == 1);
            Check.due("5:2 fixed " + w, x.fixed(), consistent[w] == 1);
            x.release();
        }
        // A power that its own generator does not leave alone.
        Check.due("conjugate(0, 1, 4)", x.conjugate(0, 1, 4), true);
        Check.due("power(0, 1)", x.power(0, 1), true);
        Check.due("power moved by its generator", x.fix(), false);
        // Moving twice has to be moving by the power.
        CollectedGroup y = new CollectedGroup(0x332);
        Check.due("conjugate(0, 1, 4)", y.conjugate(0, 1, 4), true);
        Check.due("moving twice is not nothing", y.fix(), false);
        // Two relations that each hold, but not together.
        CollectedGroup z = new CollectedGroup(0x222);
        Check.due("power(1, 1)", z.power(1, 1), true);
        Check.due("conjugate(0, 1, 1)", z.conjugate(0, 1, 1), true);
        Check.due("conjugate(0, 2, 2)", z.conjugate(0, 2, 2), true);
        Check.due("an exchange that breaks the power", z.fix(), false);
        // The last generators alone are already inconsistent.
        CollectedGroup v = new CollectedGroup(0x572);
        Check.due("conjugate(1, 2, 2)", v.conjugate(1, 2, 2), true);
        Check.due("inconsistent behind g(0)", v.fix(), false);
        Check.due("not fixed by a refused fix", v.fixed(), false);
        Check.due("may be changed after it", v.conjugate(1, 2, 1), true);
        Check.due("consistent then", v.fix(), true);
    }

    private static void promise7FixTwice() {
        CollectedGroup x = Groups.symmetric3();
        for (int s = 0; s < 4; s++) {
            Check.due("new place", x.count(s), 1);
            Check.due("new place has 0", x.has(s, 0), true);
            Check.due("join", x.join(s, 1), 3);
        }
        Check.due("fix while fixed", x.fix(), true);
        for (int s = 0; s < 4; s++) {
            Check.due("place kept", x.count(s), 3);
        }
        x.release();
        Check.due("fix anew", x.fix(), true);
        for (int s = 0; s < 4; s++) {
            Check.due("place emptied", x.count(s), 1);
            Check.due("place emptied of 1", x.has(s, 1), false);
            Check.due("place emptied has 0", x.has(s, 0), true);
        }
    }

    private static void promise7FixOtherRelations() {
        // Nothing of the cyclic group may be left when its generators do not generate all any more.
        CollectedGroup x = Groups.cyclic128();
        Check.due("Z128 join", x.join(0, 64), 128);
        x.release();
        for (int i = 0; i < 6; i++) {
            Check.due("power to 0", x.power(i, 0), true);
        }
        // g(4), g(5) and g(6) make a dihedral group of 8 now; the others stand apart.
        Check.due("conjugate(4, 5, 3)", x.conjugate(4, 5, 3), true);
        Check.due("fix", x.fix(), true);
        Check.due("join", x.join(0, 64), 2);
        Check.due("derived(0)", x.derived(0), 128);
        Check.due("derived(1)", x.derived(1), 2);
        Check.due("lower(1)", x.lower(1), 2);
        Check.due("centre()", x.centre(), 32);
        Check.due("classes()", x.classes(), 80);
        Check.due("join g(5)", x.join(1, 2), 2);
        Check.due("spread", x.spread(1), 4);
    }

    private static void promise8Release() {
        CollectedGroup x = Groups.symmetric3();
        Check.due("join", x.join(2, 3), 2);
        x.release();
        Check.due("fixed()", x.fixed(), false);
        Check.due("has(2, 3)", x.has(2, 3), false);
        Check.due("has(2, 0)", x.has(2, 0), false);
        Check.due("product", x.product(0, 0), NONE);
        Check.due("size() goes on", x.size(), 6);
        x.release();
        Check.due("fixed() after two", x.fixed(), false);
        Check.due("relations stay", x.fix(), true);
        Check.due("relations stay: product", x.product(1, 3), 5);
    }

    private static void promise9Fixed() {
        CollectedGroup x = new CollectedGroup(0x32);
        Check.due("new", x.fixed(), false);
        Check.due("refused call", x.power(0, 9), false);
        Check.due("after it", x.fixed(), false);
        Check.due("conjugate to 0", x.conjugate(0, 1, 0), true);
        Check.due("fix refused", x.fix(), false);
        Check.due("after a refused fix", x.fixed(), false);
        Check.due("conjugate", x.conjugate(0, 1, 1), true);
        Check.due("fix", x.fix(), true);
        Check.due("after fix", x.fixed(), true);
        Check.due("power refused", x.power(0, 0), false);
        Check.due("still", x.fixed(), true);
    }

    private static void promise10Product() {
        CollectedGroup x = Groups.quaternions();
        Check.due("i j", x.product(4, 2), 6);
        Check.due("j i", x.product(2, 4), 7);
        Check.due("i i", x.product(4, 4), 1);
        Check.due("j j", x.product(2, 2), 1);
        Check.due("k k", x.product(6, 6), 1);
        Check.due("-1 -1", x.product(1, 1), 0);
        for (int a = 0; a < 8; a++) {
            Check.due("0 a", x.product(0, a), a);
            Check.due("a 0", x.product(a, 0), a);
        }
        // p(i) stands before what has passed g(i): the words do not commute here.
        CollectedGroup z = Groups.cyclic128();
        Check.due("Z128: 1 + 1", z.product(64, 64), 32);
        Check.due("Z128: last and last", z.product(1, 1), 0);
        Check.due("Z128: -1 - 1", z.product(127, 127), 63);
    }

    private static void promise11Times() {
        CollectedGroup x = Groups.cyclic128();
        Check.due("times(64, 0)", x.times(64, 0), 0);
        Check.due("times(64, 1)", x.times(64, 1), 64);
        Check.due("times(64, 2)", x.times(64, 2), 32);
        Check.due("times(64, 127)", x.times(64, 127), 127);
        Check.due("times(64, 128)", x.times(64, 128), 0);
        Check.due("times(64, -1)", x.times(64, -1), 127);
        Check.due("times(64, -127)", x.times(64, -127), 64);
        Check.due("times(64, MAX)", x.times(64, MOST), 127);
        Check.due("times(64, MIN)", x.times(64, LEAST), 0);
        Check.due("times(64, MIN + 1)", x.times(64, LEAST + 1), 64);
        Check.due("times(0, MIN)", x.times(0, LEAST), 0);
        CollectedGroup y = new CollectedGroup(0x13);
        Check.due("Z3 fix", y.fix(), true);
        Check.due("Z3 times(1, MIN)", y.times(1, LEAST), 1);
        Check.due("Z3 times(1, MAX)", y.times(1, MOST), 1);
        Check.due("Z3 times(2, -4)", y.times(2, -4), 1);
        Check.due("Z3 times(2, 1000000007)", y.times(2, 1000000007), 1);
    }

    private static void promise12Conjugated() {
        CollectedGroup x = new CollectedGroup(0x73);
        Check.due("conjugate(0, 1, 2)", x.conjugate(0, 1, 2), true);
        Check.due("7:3 fix", x.fix(), true);
        Check.due("g(1) by g(0)", x.conjugated(1, 7), 2);
        Check.due("g(1) by g(0) twice", x.conjugated(1, 14), 4);
        Check.due("g(0) by g(1)", x.conjugated(7, 1), 13);
        Check.due("by itself", x.conjugated(9, 9), 9);
        Check.due("by 0", x.conjugated(9, 0), 9);
        Check.due("0 by g(0)", x.conjugated(0, 7), 0);
    }

    private static void promise13Commutator() {
        CollectedGroup x = new CollectedGroup(0x73);
        Check.due("conjugate(0, 1, 2)", x.conjugate(0, 1, 2), true);
        Check.due("7:3 fix", x.fix(), true);
        Check.due("g(1), g(0)", x.commutator(1, 7), 1);
        Check.due("g(0), g(1)", x.commutator(7, 1), 6);
        Check.due("g(1), g(0) twice", x.commutator(1, 14), 3);
        Check.due("with itself", x.commutator(8, 8), 0);
        Check.due("with 0", x.commutator(8, 0), 0);
        Check.due("0 with", x.commutator(0, 8), 0);
    }

    private static void promise14Order() {
        CollectedGroup x = Groups.symmetric4();
        Check.due("order(0)", x.order(0), 1);
        Check.due("order(1)", x.order(1), 2);
        Check.due("order(4)", x.order(4), 3);
        Check.due("order(12)", x.order(12), 2);
        Check.due("order(14)", x.order(14), 4);
        CollectedGroup z = Groups.cyclic128();
        Check.due("Z128 order of g(0)", z.order(64), 128);
        Check.due("Z128 order of g(6)", z.order(1), 2);
        Check.due("Z128 order of the last", z.order(127), 128);
    }

    private static void promise15Clear() {
        CollectedGroup x = Groups.symmetric3();
        Check.due("join(1, 1)", x.join(1, 1), 3);
        Check.due("join(2, 3)", x.join(2, 3), 2);
        Check.due("clear(1)", x.clear(1), 1);
        Check.due("count(1)", x.count(1), 1);
        Check.due("has(1, 0)", x.has(1, 0), true);
        Check.due("has(1, 1)", x.has(1, 1), false);
        Check.due("another place", x.count(2), 2);
        Check.due("clear(1) again", x.clear(1), 1);
        Check.due("what was cleared generates nothing", x.join(1, 3), 2);
    }

    private static void promise16Join() {
        CollectedGroup x = Groups.symmetric4();
        Check.due("join(0, 0)", x.join(0, 0), 1);
        Check.due("join(0, 1)", x.join(0, 1), 2);
        Check.due("join(0, 1) again", x.join(0, 1), 2);
        Check.due("join(0, 2)", x.join(0, 2), 4);
        Check.due("join(0, 3), there already", x.join(0, 3), 4);
        Check.due("join(0, 4)", x.join(0, 4), 12);
        Check.due("has(0, 12)", x.has(0, 12), false);
        Check.due("join(0, 12)", x.join(0, 12), 24);
        Check.due("join(3, 12)", x.join(3, 12), 2);
        Check.due("join(3, 4)", x.join(3, 4), 6);
        Check.due("join(1, 14), of order 4", x.join(1, 14), 4);
        Check.due("its inverse", x.has(1, 13), true);
        CollectedGroup y = new CollectedGroup(0x2222222);
        Check.due("2^7 fix", y.fix(), true);
        for (int i = 0; i < 7; i++) {
            Check.due("2^7 join", y.join(3, y.generator(i)), 2 << i);
        }
        Check.due("2^7 all", y.count(3), 128);
    }

    private static void promise17Spread() {
        CollectedGroup x = Groups.symmetric4();
        Check.due("of 0", x.spread(0), 1);
        Check.due("join(0, 1)", x.join(0, 1), 2);
        Check.due("spread(0)", x.spread(0), 4);
        Check.due("spread(0) again", x.spread(0), 4);
        Check.due("has(0, 3)", x.has(0, 3), true);
        Check.due("join(1, 4)", x.join(1, 4), 3);
        Check.due("spread(1)", x.spread(1), 12);
        Check.due("join(2, 12)", x.join(2, 12), 2);
        Check.due("spread(2)", x.spread(2), 24);
        Check.due("another place", x.count(3), 1);
        CollectedGroup q = Groups.quaternions();
        Check.due("Q8 join", q.join(0, 4), 4);
        Check.due("Q8 spread", q.spread(0), 4);
    }

    private static void promise18Commute() {
        CollectedGroup x = Groups.symmetric4();
        Check.due("A4 join", x.join(0, 1), 2);
        Check.due("A4 join", x.join(0, 4), 12);
        Check.due("transposition", x.join(1, 12), 2);
        Check.due("commute(0, 1, 2)", x.commute(0, 1, 2), 12);
        Check.due("commute(1, 1, 3)", x.commute(1, 1, 3), 1);
        Check.due("s stays", x.count(0), 12);
        Check.due("t stays", x.count(1), 2);
        Check.due("u is s and t", x.commute(0, 0, 0), 4);
        Check.due("has(0, 1)", x.has(0, 1), true);
        Check.due("has(0, 4)", x.has(0, 4), false);
        Check.due("u is t", x.commute(2, 0, 0), 4);
        Check.due("u is s", x.commute(1, 0, 1), 2);
        Check.due("with 0 alone", x.commute(3, 2, 2), 1);
        // Here a commutator of generators does not yet generate all: its conjugates by the second,
        // or by the first, are needed.
        CollectedGroup y = Groups.symmetric4();
        Check.due("Z2 join", y.join(0, 1), 2);
        Check.due("Z3 join", y.join(1, 4), 3);
        Check.due("Z2 with Z3", y.commute(0, 1, 2), 4);
        Check.due("Z3 with Z2", y.commute(1, 0, 3), 4);
        Check.due("Z4 join", x.join(3, 14), 4);
        Check.due("Z3 join", x.join(2, 4), 3);
        Check.due("commute(3, 2, 1)", x.commute(3, 2, 1), 12);
        Check.due("what it has then can be joined to", x.join(1, 12), 24);
        // What u had before plays no part.
        Check.due("whole place overwritten", x.commute(0, 0, 1), 1);
        Check.due("overwritten has(1, 4)", x.has(1, 4), false);
        Check.due("S3 in S3", commuteTwice(), 3);
    }

    /** Both subgroups of two elements: their commutators make three. */
    private static int commuteTwice() {
        CollectedGroup x = Groups.symmetric3();
        x.join(0, 3);
        x.join(1, 4);
        return x.commute(0, 1, 0);
    }

    private static void promises19And20CountHas() {
        CollectedGroup x = Groups.symmetric3();
        Check.due("count of 0 alone", x.count(3), 1);
        Check.due("join(3, 4)", x.join(3, 4), 2);
        Check.due("count(3)", x.count(3), 2);
        for (int a = 0; a < 6; a++) {
            Check.due("has(3, " + a + ")", x.has(3, a), a == 0 || a == 4);
            Check.due("has(2, " + a + ")", x.has(2, a), a == 0);
        }
        for (int s : new int[] {-1, 4, LEAST, MOST}) {
            Check.due("has in place " + s, x.has(s, 0), false);
        }
        for (int a : new int[] {-1, 6, 127, 128, LEAST, MOST}) {
            Check.due("has of " + a, x.has(3, a), false);
        }
        Check.due("has before fix", new CollectedGroup(0x32).has(0, 0), false);
    }

    private static void series(CollectedGroup x, int[] derived, int[] lower) {
        for (int k = 0; k < 12; k++) {
            Check.due("derived(" + k + ")", x.derived(k), derived[Math.min(k, derived.length - 1)]);
            Check.due("lower(" + k + ")", x.lower(k), lower[Math.min(k, lower.length - 1)]);
        }
        Check.due("derived(MAX)", x.derived(MOST), derived[derived.length - 1]);
        Check.due("lower(MAX)", x.lower(MOST), lower[lower.length - 1]);
    }

    private static void promise21Derived() {
        series(Groups.symmetric4(), new int[] {24, 12, 4, 1}, new int[] {24, 12});
        series(Groups.symmetric3(), new int[] {6, 3, 1}, new int[] {6, 3});
        Check.due("derived(-1)", Groups.symmetric3().derived(-1), NONE);
        Check.due("derived(MIN)", Groups.symmetric3().derived(LEAST), NONE);
    }

    private static void promise22Lower() {
        series(Groups.quaternions(), new int[] {8, 2, 1}, new int[] {8, 2, 1});
        // The dihedral group of 128 elements: the longest lower series that there is room for.
        CollectedGroup x = Groups.dihedral128();
        series(x, new int[] {128, 32, 1}, new int[] {128, 32, 16, 8, 4, 2, 1});
        Check.due("lower(-1)", x.lower(-1), NONE);
        Check.due("lower(MIN)", x.lower(LEAST), NONE);
        // The places play no part in the series, nor they in the places.
        Check.due("join(0, 1)", x.join(0, 1), 2);
        Check.due("lower(3)", x.lower(3), 8);
        Check.due("derived(1)", x.derived(1), 32);
        Check.due("count(0)", x.count(0), 2);
    }

    private static void promise23Centre() {
        Check.due("S3 centre", Groups.symmetric3().centre(), 1);
        Check.due("S4 centre", Groups.symmetric4().centre(), 1);
        Check.due("Q8 centre", Groups.quaternions().centre(), 2);
        Check.due("Z128 centre", Groups.cyclic128().centre(), 128);
        Check.due("D64 centre", Groups.dihedral128().centre(), 2);
    }

    private static void promises24To26Classes() {
        CollectedGroup x = Groups.symmetric3();
        int[] kin = {1, 2, 2, 3, 3, 3};
        int[] head = {0, 1, 1, 3, 3, 3};
        for (int a = 0; a < 6; a++) {
            Check.due("S3 kin(" + a + ")", x.kin(a), kin[a]);
            Check.due("S3 head(" + a + ")", x.head(a), head[a]);
        }
        Check.due("S3 classes", x.classes(), 3);
        Check.due("S3 kin after classes", x.kin(5), 3);
        CollectedGroup y = Groups.symmetric4();
        Check.due("S4 classes", y.classes(), 5);
        Check.due("S4 kin(23)", y.kin(23), 6);
        Check.due("S4 head(23)", y.head(23), 13);
        Check.due("S4 head(3)", y.head(3), 1);
        Check.due("S4 head(11)", y.head(11), 4);
        CollectedGroup d = Groups.dihedral128();
        Check.due("D64 classes", d.classes(), 35);
        Check.due("D64 kin of a turn", d.kin(32), 2);
        Check.due("D64 kin of a mirror", d.kin(64), 32);
        Check.due("Z128 classes", Groups.cyclic128().classes(), 128);
    }

    private static void allRefused(CollectedGroup x, int a, int s) {
        Check.due("product of 0 and " + a, x.product(0, a), NONE);
        Check.due("product of " + a + " and 0", x.product(a, 0), NONE);
        Check.due("times of " + a, x.times(a, 0), NONE);
        Check.due("conjugated " + a, x.conjugated(a, 0), NONE);
        Check.due("conjugated by " + a, x.conjugated(0, a), NONE);
        Check.due("commutator of " + a, x.commutator(a, 0), NONE);
        Check.due("commutator with " + a, x.commutator(0, a), NONE);
        Check.due("order of " + a, x.order(a), NONE);
        Check.due("kin of " + a, x.kin(a), NONE);
        Check.due("head of " + a, x.head(a), NONE);
        Check.due("join of " + a, x.join(0, a), NONE);
        Check.due("join to " + s, x.join(s, 0), NONE);
        Check.due("clear " + s, x.clear(s), NONE);
        Check.due("spread " + s, x.spread(s), NONE);
        Check.due("count " + s, x.count(s), NONE);
        Check.due("commute first " + s, x.commute(s, 0, 0), NONE);
        Check.due("commute second " + s, x.commute(0, s, 0), NONE);
        Check.due("commute to " + s, x.commute(0, 0, s), NONE);
        Check.due("has of " + a, x.has(0, a), false);
        Check.due("has in " + s, x.has(s, 0), false);
    }

    private static void refusedWhenNotFixed() {
        CollectedGroup x = new CollectedGroup(0x32);
        for (int round = 0; round < 2; round++) {
            allRefused(x, 0, 0);
            allRefused(x, 5, 3);
            allRefused(x, -1, 4);
            Check.due("derived(0)", x.derived(0), NONE);
            Check.due("lower(0)", x.lower(0), NONE);
            Check.due("centre()", x.centre(), NONE);
            Check.due("classes()", x.classes(), NONE);
            Check.due("fix", x.fix(), true);
            x.release();
        }
        Check.due("conjugate to 0", x.conjugate(0, 1, 0), true);
        Check.due("fix refused", x.fix(), false);
        allRefused(x, 0, 0);
        Check.due("classes() after a refused fix", x.classes(), NONE);
    }

    private static void refusedElementsAndPlaces() {
        CollectedGroup x = Groups.symmetric3();
        int[] elements = {-1, 6, 7, 128, LEAST, MOST};
        int[] places = {-1, 4, 5, 64, LEAST, MOST};
        for (int k = 0; k < elements.length; k++) {
            allRefused(x, elements[k], places[k]);
        }
    }

    private static void refusedCallsChangeNothing() {
        CollectedGroup x = Groups.symmetric3();
        Check.due("join(0, 3)", x.join(0, 3), 2);
        Check.due("join(1, 1)", x.join(1, 1), 3);
        Check.due("join(0, 6)", x.join(0, 6), NONE);
        Check.due("join(4, 1)", x.join(4, 1), NONE);
        Check.due("commute(0, 4, 1)", x.commute(0, 4, 1), NONE);
        Check.due("commute(0, 1, 4)", x.commute(0, 1, 4), NONE);
        Check.due("clear(-1)", x.clear(-1), NONE);
        Check.due("spread(4)", x.spread(4), NONE);
        Check.due("conjugate(0, 1, 1)", x.conjugate(0, 1, 1), false);
        Check.due("count(0)", x.count(0), 2);
        Check.due("count(1)", x.count(1), 3);
        Check.due("fixed()", x.fixed(), true);
        x.release();
        Check.due("conjugate(0, 1, 3)", x.conjugate(0, 1, 3), false);
        Check.due("power(0, 3)", x.power(0, 3), false);
        Check.due("power(2, 0)", x.power(2, 0), false);
        Check.due("clear(0)", x.clear(0), NONE);
        Check.due("fix", x.fix(), true);
        Check.due("still S3", x.product(1, 3), 5);
        Check.due("still of order 2", x.order(3), 2);
    }

    private static void groupOfOne() {
        CollectedGroup x = new CollectedGroup(0);
        Check.due("conjugate", x.conjugate(0, 1, 0), false);
        Check.due("fix", x.fix(), true);
        Check.due("product(0, 0)", x.product(0, 0), 0);
        Check.due("times(0, MIN)", x.times(0, LEAST), 0);
        Check.due("conjugated(0, 0)", x.conjugated(0, 0), 0);
        Check.due("commutator(0, 0)", x.commutator(0, 0), 0);
        Check.due("order(0)", x.order(0), 1);
        Check.due("join(3, 0)", x.join(3, 0), 1);
        Check.due("spread(3)", x.spread(3), 1);
        Check.due("commute(0, 1, 2)", x.commute(0, 1, 2), 1);
        Check.due("derived(0)", x.derived(0), 1);
        Check.due("lower(MAX)", x.lower(MOST), 1);
        Check.due("centre()", x.centre(), 1);
        Check.due("classes()", x.classes(), 1);
        Check.due("kin(0)", x.kin(0), 1);
        Check.due("head(0)", x.head(0), 0);
        allRefused(x, 1, 4);
        allRefused(x, -1, -1);
    }

    private static void groupsOfTheLargestSize() {
        // The central product of three dihedral groups of 8: 2^7 elements, centre and derived of 2.
        CollectedGroup x = new CollectedGroup(0x2222222);
        for (int k = 0; k < 6; k += 2) {
            Check.due("conjugate", x.conjugate(k, k + 1, x.generator(k + 1) + 1), true);
        }
        Check.due("fix", x.fix(), true);
        Check.due("centre()", x.centre(), 2);
        Check.due("classes()", x.classes(), 65);
        Check.due("derived(1)", x.derived(1), 2);
        Check.due("lower(2)", x.lower(2), 1);
        // Upper triangular matrices of three rows over five: 5^3 elements.
        CollectedGroup y = new CollectedGroup(0x555);
        Check.due("conjugate(0, 1, 6)", y.conjugate(0, 1, 6), true);
        Check.due("fix", y.fix(), true);
        Check.due("centre()", y.centre(), 5);
        Check.due("classes()", y.classes(), 29);
        Check.due("order(124)", y.order(124), 5);
    }
}
