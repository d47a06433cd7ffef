/** Promises 15 to 20: each sentence with a boundary case has a test of its own. */
public final class SubgroupsBoundariesTest {
    private static final int NONE = CollectedGroup.NONE;
    private static final int LEAST = Integer.MIN_VALUE;
    private static final int MOST = Integer.MAX_VALUE;
    private static final int[] NO_PLACES = {-1, -4, 4, 5, 64, LEAST, MOST};

    public static void main(String[] args) {
        Check.sentence("Promise 15", "becomes that of 0 alone: of the whole group", SubgroupsBoundariesTest::clearFull);
        Check.sentence("Promise 15", "becomes that of 0 alone: of 0 alone", SubgroupsBoundariesTest::clearEmpty);
        Check.sentence("Promise 15", "the subgroup in place s, and no other", SubgroupsBoundariesTest::clearOne);
        Check.sentence("Promise 15", "what was there before generates nothing later",
            SubgroupsBoundariesTest::clearForgets);
        Check.sentence("Promise 15", "NONE when a place isn't 0 .. 3", () -> noPlace(FixedCall.CLEAR));
        Check.sentence("Promise 16", "join 0", SubgroupsBoundariesTest::joinZero);
        Check.sentence("Promise 16", "join what is there already", SubgroupsBoundariesTest::joinAgain);
        Check.sentence("Promise 16", "join to the whole group", SubgroupsBoundariesTest::joinToFull);
        Check.sentence("Promise 16", "join the last element", SubgroupsBoundariesTest::joinLast);
        Check.sentence("Promise 16", "join seven times, twice as many each time", SubgroupsBoundariesTest::joinSeven);
        Check.sentence("Promise 16", "join one element that generates all", SubgroupsBoundariesTest::joinCyclic);
        Check.sentence("Promise 16", "what its elements and a generate, not their union",
            SubgroupsBoundariesTest::joinGenerates);
        Check.sentence("Promise 16", "the subgroup in place s, and no other", SubgroupsBoundariesTest::joinOne);
        Check.sentence("Promise 16", "NONE when a place isn't 0 .. 3", () -> noPlace(FixedCall.JOIN));
        Check.sentence("Promise 16", "NONE when an element isn't 0 .. N - 1", SubgroupsBoundariesTest::joinNoElement);
        Check.sentence("Promise 17", "spread 0 alone", SubgroupsBoundariesTest::spreadEmpty);
        Check.sentence("Promise 17", "spread the whole group", SubgroupsBoundariesTest::spreadFull);
        Check.sentence("Promise 17", "spread what its conjugates leave", SubgroupsBoundariesTest::spreadNormal);
        Check.sentence("Promise 17", "spread a second time", SubgroupsBoundariesTest::spreadTwice);
        Check.sentence("Promise 17", "what all conjugates generate, not themselves alone",
            SubgroupsBoundariesTest::spreadGenerates);
        Check.sentence("Promise 17", "conjugates of conjugates, at the largest size",
            SubgroupsBoundariesTest::spreadLargest);
        Check.sentence("Promise 17", "the subgroup in place s, and no other", SubgroupsBoundariesTest::spreadOne);
        Check.sentence("Promise 17", "NONE when a place isn't 0 .. 3", () -> noPlace(FixedCall.SPREAD));
        Check.sentence("Promise 18", "u may be s", SubgroupsBoundariesTest::commuteIntoFirst);
        Check.sentence("Promise 18", "u may be t", SubgroupsBoundariesTest::commuteIntoSecond);
        Check.sentence("Promise 18", "u may be s and t", SubgroupsBoundariesTest::commuteIntoBoth);
        Check.sentence("Promise 18", "s may be t", SubgroupsBoundariesTest::commuteWithItself);
        Check.sentence("Promise 18", "with 0 alone", SubgroupsBoundariesTest::commuteWithEmpty);
        Check.sentence("Promise 18", "of subgroups that commute", SubgroupsBoundariesTest::commuteCommuting);
        Check.sentence("Promise 18", "what all commutators generate, not those of a few",
            SubgroupsBoundariesTest::commuteAll);
        Check.sentence("Promise 18", "place u gets it, whatever it had", SubgroupsBoundariesTest::commuteOverwrites);
        Check.sentence("Promise 18", "s and t stay when u is another", SubgroupsBoundariesTest::commuteLeavesOthers);
        Check.sentence("Promise 18", "NONE when s, t or u isn't 0 .. 3", SubgroupsBoundariesTest::commuteRefused);
        Check.sentence("Promise 19", "1 for 0 alone, in every place", SubgroupsBoundariesTest::countEmpty);
        Check.sentence("Promise 19", "N for the whole group", SubgroupsBoundariesTest::countFull);
        Check.sentence("Promise 19", "changes nothing", SubgroupsBoundariesTest::countChangesNothing);
        Check.sentence("Promise 19", "NONE when a place isn't 0 .. 3", () -> noPlace(FixedCall.COUNT));
        Check.sentence("Promise 20", "0 alone has 0 and nothing else", SubgroupsBoundariesTest::hasEmpty);
        Check.sentence("Promise 20", "the whole group has all", SubgroupsBoundariesTest::hasFull);
        Check.sentence("Promise 20", "false instead of NONE: not fixed", SubgroupsBoundariesTest::hasNotFixed);
        Check.sentence("Promise 20", "false instead of NONE: no place", SubgroupsBoundariesTest::hasNoPlace);
        Check.sentence("Promise 20", "false instead of NONE: no element", SubgroupsBoundariesTest::hasNoElement);
        Check.end();
    }

    private static void noPlace(FixedCall call) {
        for (CollectedGroup x : new CollectedGroup[] {Groups.one(), Groups.symmetric3(), Groups.cyclic128()}) {
            for (int s : NO_PLACES) {
                int[] arguments = new int[call.kinds.length()];
                arguments[0] = s;
                Check.due(call.named(arguments), call.answer(x, arguments), NONE);
            }
        }
    }

    private static void holds(CollectedGroup x, int s, int... elements) {
        Check.due("count(" + s + ")", x.count(s), elements.length);
        for (int a : elements) {
            Check.due("has(" + s + ", " + a + ")", x.has(s, a), true);
        }
    }

    private static void fill(CollectedGroup x, int s) {
        for (int i = 0; i < x.generators(); i++) {
            x.join(s, x.generator(i));
        }
        Check.due("full place " + s, x.count(s), x.size());
    }

    private static void clearFull() {
        for (CollectedGroup x : new CollectedGroup[] {Groups.symmetric3(), Groups.plain(0x2222222)}) {
            for (int s = 0; s < 4; s++) {
                fill(x, s);
                Check.due("clear(" + s + ")", x.clear(s), 1);
                holds(x, s, 0);
                Check.due("has the last", x.has(s, x.size() - 1), false);
            }
        }
    }

    private static void clearEmpty() {
        for (CollectedGroup x : new CollectedGroup[] {Groups.one(), Groups.symmetric3()}) {
            for (int s = 0; s < 4; s++) {
                Check.due("clear(" + s + ")", x.clear(s), 1);
                Check.due("clear(" + s + ") again", x.clear(s), 1);
                holds(x, s, 0);
            }
        }
    }

    private static void clearOne() {
        for (int s = 0; s < 4; s++) {
            CollectedGroup x = Groups.symmetric3();
            for (int other = 0; other < 4; other++) {
                x.join(other, 3);
            }
            Check.due("clear(" + s + ")", x.clear(s), 1);
            for (int other = 0; other < 4; other++) {
                Check.due("count(" + other + ")", x.count(other), other == s ? 1 : 2);
            }
        }
    }

    private static void clearForgets() {
        CollectedGroup x = Groups.symmetric3();
        x.join(0, 1);
        x.clear(0);
        Check.due("join(0, 3)", x.join(0, 3), 2);
        x.clear(0);
        Check.due("spread(0)", x.spread(0), 1);
        x.join(0, 3);
        x.clear(0);
        fill(x, 1);
        Check.due("commute(0, 1, 2)", x.commute(0, 1, 2), 1);
    }

    private static void joinZero() {
        CollectedGroup x = Groups.symmetric3();
        Check.due("to 0 alone", x.join(0, 0), 1);
        holds(x, 0, 0);
        x.join(0, 3);
        Check.due("to two", x.join(0, 0), 2);
        holds(x, 0, 0, 3);
        Check.due("in a group of one", Groups.one().join(0, 0), 1);
    }

    private static void joinAgain() {
        CollectedGroup x = Groups.symmetric4();
        Check.due("join(2, 14)", x.join(2, 14), 4);
        Check.due("join(2, 14) again", x.join(2, 14), 4);
        Check.due("join its inverse", x.join(2, x.times(14, -1)), 4);
        Check.due("join twice it", x.join(2, x.times(14, 2)), 4);
    }

    private static void joinToFull() {
        CollectedGroup x = Groups.plain(0x2222222);
        fill(x, 1);
        for (int a = 0; a < 128; a++) {
            Check.due("join(1, " + a + ")", x.join(1, a), 128);
        }
    }

    private static void joinLast() {
        Check.due("2", Groups.plain(0x2).join(3, 1), 2);
        Check.due("13", Groups.plain(0xD).join(3, 12), 13);
        Check.due("S3", Groups.symmetric3().join(3, 5), 2);
        Check.due("2^7", Groups.plain(0x2222222).join(3, 127), 2);
        Check.due("Z128", Groups.cyclic128().join(3, 127), 128);
    }

    private static void joinSeven() {
        CollectedGroup x = Groups.plain(0x2222222);
        CollectedGroup y = Groups.plain(0x2222222);
        for (int i = 0; i < 7; i++) {
            Check.due("g(" + i + "), from the first on", x.join(0, 64 >> i), 2 << i);
            Check.due("g(" + (6 - i) + "), from the last on", y.join(3, 1 << i), 2 << i);
        }
        // After clear there is room for seven again.
        x.clear(0);
        for (int i = 0; i < 7; i++) {
            Check.due("after clear, g(" + i + ")", x.join(0, 64 >> i), 2 << i);
        }
    }

    private static void joinCyclic() {
        CollectedGroup x = Groups.cyclic128();
        for (int i = 0; i < 7; i++) {
            Check.due("g(" + (6 - i) + ")", x.join(0, 1 << i), 2 << i);
        }
        Check.due("g(0) at once", x.join(1, 64), 128);
        Check.due("has the last", x.has(1, 127), true);
    }

    private static void joinGenerates() {
        CollectedGroup x = Groups.symmetric3();
        Check.due("join(0, 3)", x.join(0, 3), 2);
        Check.due("join(0, 4)", x.join(0, 4), 6);
        Check.due("has(0, 1)", x.has(0, 1), true);
        CollectedGroup y = Groups.symmetric4();
        Check.due("join(0, 1)", y.join(0, 1), 2);
        Check.due("join(0, 4)", y.join(0, 4), 12);
        for (int a = 0; a < 24; a++) {
            Check.due("has(0, " + a + ")", y.has(0, a), a < 12);
        }
    }

    private static void joinOne() {
        for (int s = 0; s < 4; s++) {
            CollectedGroup x = Groups.symmetric3();
            Check.due("join(" + s + ", 1)", x.join(s, 1), 3);
            for (int other = 0; other < 4; other++) {
                Check.due("count(" + other + ")", x.count(other), other == s ? 3 : 1);
            }
        }
    }

    private static void joinNoElement() {
        CollectedGroup x = Groups.symmetric3();
        x.join(0, 3);
        for (int a : new int[] {-1, -6, 6, 7, 128, LEAST, MOST}) {
            Check.due("join(0, " + a + ")", x.join(0, a), NONE);
            holds(x, 0, 0, 3);
        }
    }

    private static void spreadEmpty() {
        for (CollectedGroup x : new CollectedGroup[] {Groups.one(), Groups.symmetric3(), Groups.cyclic128()}) {
            Check.due("spread(0)", x.spread(0), 1);
            Check.due("spread(3)", x.spread(3), 1);
            holds(x, 3, 0);
        }
    }

    private static void spreadFull() {
        for (CollectedGroup x : new CollectedGroup[] {Groups.symmetric4(), Groups.dihedral128()}) {
            fill(x, 2);
            Check.due("spread(2)", x.spread(2), x.size());
        }
    }

    private static void spreadNormal() {
        CollectedGroup x = Groups.quaternions();
        x.join(0, 4);
        Check.due("i in Q8", x.spread(0), 4);
        holds(x, 0, 0, 1, 4, 5);
        x.join(1, 1);
        Check.due("-1 in Q8", x.spread(1), 2);
        CollectedGroup y = Groups.plain(0x2222222);
        y.join(0, 127);
        Check.due("in a group that commutes", y.spread(0), 2);
    }

    private static void spreadTwice() {
        CollectedGroup x = Groups.symmetric4();
        x.join(0, 3);
        Check.due("spread(0)", x.spread(0), 4);
        Check.due("spread(0) again", x.spread(0), 4);
        holds(x, 0, 0, 1, 2, 3);
    }

    private static void spreadGenerates() {
        // The three conjugates of 3 in S3 are three elements of order 2; they generate six.
        CollectedGroup x = Groups.symmetric3();
        x.join(0, 3);
        Check.due("spread(0)", x.spread(0), 6);
        Check.due("has(0, 1)", x.has(0, 1), true);
        CollectedGroup y = Groups.symmetric4();
        y.join(0, 4);
        Check.due("4 in S4", y.spread(0), 12);
        y.join(1, 14);
        Check.due("14 in S4", y.spread(1), 24);
    }

    /** A mirror in the group of 128 with 64 turns: its conjugates make half of the group. */
    private static void spreadLargest() {
        CollectedGroup x = Groups.dihedral128();
        Check.due("join(0, 64)", x.join(0, 64), 2);
        Check.due("spread(0)", x.spread(0), 64);
        for (int a = 0; a < 128; a++) {
            Check.due("has(0, " + a + ")", x.has(0, a), a % 64 < 32);
        }
    }

    private static void spreadOne() {
        for (int s = 0; s < 4; s++) {
            CollectedGroup x = Groups.symmetric3();
            for (int other = 0; other < 4; other++) {
                x.join(other, 3);
            }
            Check.due("spread(" + s + ")", x.spread(s), 6);
            for (int other = 0; other < 4; other++) {
                Check.due("count(" + other + ")", x.count(other), other == s ? 6 : 2);
            }
        }
    }

    /** Place 0 has A4, place 1 has two elements, place 2 four of order 2 and place 3 the whole of S4. */
    private static CollectedGroup inSymmetric4() {
        CollectedGroup x = Groups.symmetric4();
        x.join(0, 1);
        x.join(0, 4);
        x.join(1, 12);
        x.join(2, 1);
        x.join(2, 2);
        fill(x, 3);
        Check.due("A4", x.count(0), 12);
        Check.due("the four", x.count(2), 4);
        return x;
    }

    private static void commuteIntoFirst() {
        CollectedGroup x = inSymmetric4();
        Check.due("commute(0, 1, 0)", x.commute(0, 1, 0), 12);
        Check.due("commute(3, 2, 3)", x.commute(3, 2, 3), 4);
        holds(x, 3, 0, 1, 2, 3);
        holds(x, 2, 0, 1, 2, 3);
        CollectedGroup y = inSymmetric4();
        Check.due("commute(1, 2, 1)", y.commute(1, 2, 1), 2);
        Check.due("count(2)", y.count(2), 4);
    }

    private static void commuteIntoSecond() {
        CollectedGroup x = inSymmetric4();
        Check.due("commute(1, 0, 0)", x.commute(1, 0, 0), 12);
        Check.due("commute(2, 3, 3)", x.commute(2, 3, 3), 4);
        holds(x, 3, 0, 1, 2, 3);
        holds(x, 2, 0, 1, 2, 3);
        CollectedGroup y = inSymmetric4();
        Check.due("commute(2, 1, 1)", y.commute(2, 1, 1), 2);
        Check.due("count(2)", y.count(2), 4);
    }

    private static void commuteIntoBoth() {
        CollectedGroup x = inSymmetric4();
        Check.due("S4", x.commute(3, 3, 3), 12);
        Check.due("A4", x.commute(3, 3, 3), 4);
        holds(x, 3, 0, 1, 2, 3);
        Check.due("the four", x.commute(3, 3, 3), 1);
        Check.due("0 alone", x.commute(3, 3, 3), 1);
        Check.due("the others stay", x.count(0), 12);
    }

    private static void commuteWithItself() {
        CollectedGroup x = inSymmetric4();
        Check.due("commute(0, 0, 1)", x.commute(0, 0, 1), 4);
        holds(x, 1, 0, 1, 2, 3);
        Check.due("count(0)", x.count(0), 12);
    }

    private static void commuteWithEmpty() {
        CollectedGroup x = inSymmetric4();
        x.clear(1);
        Check.due("commute(1, 3, 0)", x.commute(1, 3, 0), 1);
        Check.due("commute(3, 1, 2)", x.commute(3, 1, 2), 1);
        Check.due("commute(1, 1, 3)", x.commute(1, 1, 3), 1);
        for (int s = 0; s < 4; s++) {
            holds(x, s, 0);
        }
    }

    private static void commuteCommuting() {
        CollectedGroup x = inSymmetric4();
        Check.due("the four", x.commute(2, 2, 0), 1);
        Check.due("two with themselves", x.commute(1, 1, 0), 1);
        CollectedGroup z = Groups.cyclic128();
        fill(z, 0);
        Check.due("Z128", z.commute(0, 0, 0), 1);
    }

    private static void commuteAll() {
        // Of 1 and 4 in S4 the one commutator of the two alone makes 2, all of them make 4.
        CollectedGroup x = Groups.symmetric4();
        x.join(0, 1);
        x.join(1, 4);
        Check.due("2 with 3", x.commute(0, 1, 2), 4);
        Check.due("3 with 2", x.commute(1, 0, 3), 4);
        CollectedGroup y = Groups.symmetric3();
        y.join(0, 3);
        y.join(1, 4);
        Check.due("two of order 2", y.commute(0, 1, 2), 3);
        holds(y, 2, 0, 1, 2);
        CollectedGroup d = Groups.dihedral128();
        fill(d, 0);
        Check.due("64 turns", d.commute(0, 0, 1), 32);
        Check.due("not 32", d.has(1, 32), false);
        Check.due("31", d.has(1, 31), true);
    }

    private static void commuteOverwrites() {
        CollectedGroup x = inSymmetric4();
        Check.due("commute(2, 2, 3)", x.commute(2, 2, 3), 1);
        holds(x, 3, 0);
        Check.due("join(3, 12)", x.join(3, 12), 2);
        Check.due("commute(0, 0, 1)", x.commute(0, 0, 1), 4);
        Check.due("has(1, 12)", x.has(1, 12), false);
        Check.due("what u has then can be joined to", x.join(1, 12), 8);
        Check.due("and spread", x.spread(1), 24);
    }

    private static void commuteLeavesOthers() {
        CollectedGroup x = inSymmetric4();
        Check.due("commute(0, 1, 2)", x.commute(0, 1, 2), 12);
        Check.due("count(0)", x.count(0), 12);
        holds(x, 1, 0, 12);
        Check.due("count(3)", x.count(3), 24);
        // A copy, not the same: what is joined to one is not joined to another.
        Check.due("join(2, 12)", x.join(2, 12), 24);
        Check.due("count(0)", x.count(0), 12);
    }

    private static void commuteRefused() {
        CollectedGroup x = inSymmetric4();
        for (int s : NO_PLACES) {
            Check.due("commute(" + s + ", 0, 1)", x.commute(s, 0, 1), NONE);
            Check.due("commute(0, " + s + ", 1)", x.commute(0, s, 1), NONE);
            Check.due("commute(0, 1, " + s + ")", x.commute(0, 1, s), NONE);
            Check.due("commute of none", x.commute(s, s, s), NONE);
        }
        Check.due("count(0)", x.count(0), 12);
        Check.due("count(1)", x.count(1), 2);
        Check.due("count(2)", x.count(2), 4);
        Check.due("count(3)", x.count(3), 24);
    }

    private static void countEmpty() {
        for (CollectedGroup x : new CollectedGroup[] {Groups.one(), Groups.symmetric3(), Groups.cyclic128()}) {
            for (int s = 0; s < 4; s++) {
                Check.due("count(" + s + ")", x.count(s), 1);
            }
        }
    }

    private static void countFull() {
        for (CollectedGroup x : new CollectedGroup[] {Groups.one(), Groups.symmetric3(), Groups.plain(0x2222222)}) {
            for (int s = 0; s < 4; s++) {
                fill(x, s);
                Check.due("count(" + s + ")", x.count(s), x.size());
            }
        }
    }

    private static void countChangesNothing() {
        CollectedGroup x = inSymmetric4();
        for (int round = 0; round < 3; round++) {
            Check.due("count(0)", x.count(0), 12);
            Check.due("count(1)", x.count(1), 2);
            Check.due("count(2)", x.count(2), 4);
            Check.due("count(3)", x.count(3), 24);
        }
    }

    private static void hasEmpty() {
        CollectedGroup x = Groups.symmetric4();
        for (int s = 0; s < 4; s++) {
            for (int a = 0; a < 24; a++) {
                Check.due("has(" + s + ", " + a + ")", x.has(s, a), a == 0);
            }
        }
    }

    private static void hasFull() {
        CollectedGroup x = Groups.plain(0x2222222);
        fill(x, 3);
        for (int a = 0; a < 128; a++) {
            Check.due("has(3, " + a + ")", x.has(3, a), true);
        }
    }

    private static void hasNotFixed() {
        CollectedGroup x = Groups.symmetric3NotFixed();
        Check.due("has(0, 0), new", x.has(0, 0), false);
        Check.due("fix()", x.fix(), true);
        Check.due("has(0, 0), fixed", x.has(0, 0), true);
        x.release();
        Check.due("has(0, 0), released", x.has(0, 0), false);
        Check.due("has(9, 9), released", x.has(9, 9), false);
    }

    private static void hasNoPlace() {
        CollectedGroup x = Groups.symmetric3();
        for (int s = 0; s < 4; s++) {
            fill(x, s);
        }
        for (int s : NO_PLACES) {
            Check.due("has(" + s + ", 0)", x.has(s, 0), false);
            Check.due("has(" + s + ", 5)", x.has(s, 5), false);
        }
    }

    private static void hasNoElement() {
        CollectedGroup x = Groups.symmetric3();
        for (int s = 0; s < 4; s++) {
            fill(x, s);
            for (int a : new int[] {-1, -6, 6, 7, 127, 128, LEAST, MOST}) {
                Check.due("has(" + s + ", " + a + ")", x.has(s, a), false);
            }
        }
        Check.due("in a group of one", Groups.one().has(0, 1), false);
        Check.due("in Z128", Groups.cyclic128().has(0, 128), false);
    }
}
