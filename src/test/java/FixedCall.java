/**
 * The calls that need fixed relations, those with (F) and has(), with their promise and what their
 * arguments are: 'e' an element, 'p' a place, 'n' any number.
 */
enum FixedCall {
    PRODUCT(10, "ee") {
        int answer(CollectedGroup x, int... v) {
            return x.product(v[0], v[1]);
        }
    },
    TIMES(11, "en") {
        int answer(CollectedGroup x, int... v) {
            return x.times(v[0], v[1]);
        }
    },
    CONJUGATED(12, "ee") {
        int answer(CollectedGroup x, int... v) {
            return x.conjugated(v[0], v[1]);
        }
    },
    COMMUTATOR(13, "ee") {
        int answer(CollectedGroup x, int... v) {
            return x.commutator(v[0], v[1]);
        }
    },
    ORDER(14, "e") {
        int answer(CollectedGroup x, int... v) {
            return x.order(v[0]);
        }
    },
    CLEAR(15, "p") {
        int answer(CollectedGroup x, int... v) {
            return x.clear(v[0]);
        }
    },
    JOIN(16, "pe") {
        int answer(CollectedGroup x, int... v) {
            return x.join(v[0], v[1]);
        }
    },
    SPREAD(17, "p") {
        int answer(CollectedGroup x, int... v) {
            return x.spread(v[0]);
        }
    },
    COMMUTE(18, "ppp") {
        int answer(CollectedGroup x, int... v) {
            return x.commute(v[0], v[1], v[2]);
        }
    },
    COUNT(19, "p") {
        int answer(CollectedGroup x, int... v) {
            return x.count(v[0]);
        }
    },
    /** "false instead of NONE": false is 0 here. */
    HAS(20, "pe") {
        int answer(CollectedGroup x, int... v) {
            return x.has(v[0], v[1]) ? 1 : 0;
        }
    },
    DERIVED(21, "n") {
        int answer(CollectedGroup x, int... v) {
            return x.derived(v[0]);
        }
    },
    LOWER(22, "n") {
        int answer(CollectedGroup x, int... v) {
            return x.lower(v[0]);
        }
    },
    CENTRE(23, "") {
        int answer(CollectedGroup x, int... v) {
            return x.centre();
        }
    },
    CLASSES(24, "") {
        int answer(CollectedGroup x, int... v) {
            return x.classes();
        }
    },
    KIN(25, "e") {
        int answer(CollectedGroup x, int... v) {
            return x.kin(v[0]);
        }
    },
    HEAD(26, "e") {
        int answer(CollectedGroup x, int... v) {
            return x.head(v[0]);
        }
    };

    final String promise;
    final String kinds;

    FixedCall(int promise, String kinds) {
        this.promise = "Promise " + promise;
        this.kinds = kinds;
    }

    abstract int answer(CollectedGroup x, int... v);

    int refusal() {
        return this == HAS ? 0 : CollectedGroup.NONE;
    }

    boolean takes(char kind) {
        return kinds.indexOf(kind) >= 0;
    }

    String named(int... v) {
        StringBuilder text = new StringBuilder(name().toLowerCase()).append('(');
        for (int k = 0; k < v.length; k++) {
            text.append(k > 0 ? ", " : "").append(v[k]);
        }
        return text.append(')').toString();
    }
}
