/** Groups that several tests look at, fixed and with every call that made them looked at. */
final class Groups {
    private Groups() {
    }

    private static CollectedGroup fixed(String name, CollectedGroup x) {
        Check.due(name + " fix", x.fix(), true);
        return x;
    }

    /** The group of one element: no generators. */
    static CollectedGroup one() {
        return fixed("1", new CollectedGroup(0));
    }

    static CollectedGroup[] ofSizes1And2And6And128() {
        return new CollectedGroup[] {one(), plain(0x2), symmetric3(), cyclic128()};
    }

    /** The first relations: all generators commute, and each one's power is 0. */
    static CollectedGroup plain(int orders) {
        return fixed("0x" + Integer.toHexString(orders), new CollectedGroup(orders));
    }

    /** g(0) of order 2 turns g(1) of order 3 round: 3, 4, 5 are the elements of order 2. */
    static CollectedGroup symmetric3() {
        return fixed("S3", symmetric3NotFixed());
    }

    static CollectedGroup symmetric3NotFixed() {
        CollectedGroup x = new CollectedGroup(0x32);
        Check.due("S3 conjugate", x.conjugate(0, 1, 2), true);
        return x;
    }

    /** 0 .. 3 are the four that make a normal subgroup, 0 .. 11 are A4, 12 is of order 2, 14 of 4. */
    static CollectedGroup symmetric4() {
        CollectedGroup x = new CollectedGroup(0x2232);
        Check.due("S4 conjugate(1, 2, 1)", x.conjugate(1, 2, 1), true);
        Check.due("S4 conjugate(1, 3, 3)", x.conjugate(1, 3, 3), true);
        Check.due("S4 conjugate(0, 1, 8)", x.conjugate(0, 1, 8), true);
        Check.due("S4 conjugate(0, 2, 1)", x.conjugate(0, 2, 1), true);
        Check.due("S4 conjugate(0, 3, 2)", x.conjugate(0, 3, 2), true);
        return fixed("S4", x);
    }

    /** 1 is the element of order 2; 4, 2 and 6 are i, j and k. */
    static CollectedGroup quaternions() {
        CollectedGroup x = new CollectedGroup(0x222);
        Check.due("Q8 power(0, 1)", x.power(0, 1), true);
        Check.due("Q8 power(1, 1)", x.power(1, 1), true);
        Check.due("Q8 conjugate", x.conjugate(0, 1, 3), true);
        return fixed("Q8", x);
    }

    /** g(0) of order 3, 7, takes g(1) of order 7, 1, to twice g(1). */
    static CollectedGroup sevenByThree() {
        CollectedGroup x = new CollectedGroup(0x73);
        Check.due("7:3 conjugate", x.conjugate(0, 1, 2), true);
        return fixed("7:3", x);
    }

    /** The cyclic group of seven twos: every generator's power is the next generator. */
    static CollectedGroup cyclic128() {
        CollectedGroup x = new CollectedGroup(0x2222222);
        for (int i = 0; i < 6; i++) {
            Check.due("Z128 power", x.power(i, x.generator(i + 1)), true);
        }
        return fixed("Z128", x);
    }

    /** g(0) turns every generator behind it, which make Z64, into its inverse. */
    static CollectedGroup dihedral128() {
        CollectedGroup x = new CollectedGroup(0x2222222);
        for (int i = 1; i < 6; i++) {
            Check.due("D64 power", x.power(i, x.generator(i + 1)), true);
        }
        for (int j = 1; j < 7; j++) {
            Check.due("D64 conjugate", x.conjugate(0, j, 2 * x.generator(j) - 1), true);
        }
        return fixed("D64", x);
    }
}
