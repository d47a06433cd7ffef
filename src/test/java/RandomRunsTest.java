/**
 * Runs of 512 calls on one object, every answer held against Model's: all calls in any order, in every
 * state, with arguments that are mostly right and now and then far from it.
 */
public final class RandomRunsTest {
    private static final int CALLS = 512;
    private static final int RUNS_OF_EACH = 3;
    private static final int LEAST = Integer.MIN_VALUE;
    private static final int MOST = Integer.MAX_VALUE;

    private static final int[] ORDERS = {
        0, 0x2, 0x3, 0xd, 0x22, 0x32, 0x23, 0x33, 0x222, 0x73, 0xb5, 0x322, 0x232, 0x223, 0x2222, 0x2232,
        0x2223, 0x333, 0x22222, 0x2227, 0x3322, 0x732, 0x55, 0xd32, 0x22223, 0x33222, 0x222222, 0x22225,
        0xbb, 0x555, 0x2222222, 0x22222222, 0x52223, 0xd33, 0x12222222, 0x4233, 0x72222, -1, 0xf0000032
    };

    private final Draw draw;
    private final CollectedGroup x;
    private final Model model;
    private final String name;
    private int made = 0;

    private RandomRunsTest(int orders, long seed) {
        draw = new Draw(seed);
        x = new CollectedGroup(orders);
        model = new Model(orders);
        name = "0x" + Integer.toHexString(orders) + ", run " + seed + ", call ";
    }

    public static void main(String[] args) {
        long firstSeed = args.length > 0 ? Long.parseLong(args[0]) : 1;
        for (int orders : ORDERS) {
            for (long seed = firstSeed; seed < firstSeed + RUNS_OF_EACH; seed++) {
                new RandomRunsTest(orders, seed * 1000003L).run();
            }
        }
        Check.end();
    }

    private void run() {
        while (made < CALLS) {
            if (!model.fixed() && draw.below(6) == 0) {
                setConsistentRelations();
                changeSomeRelations();
                fix();
            } else if (draw.below(20) == 0) {
                commuteSmall(place(), place());
            } else {
                anyCall();
            }
        }
    }

    private void same(String call, int got, int want, int... arguments) {
        made++;
        if (made <= CALLS) {
            Check.due(name + made + ": " + call + java.util.Arrays.toString(arguments), got, want);
        }
    }

    private void same(String call, boolean got, boolean want, int... arguments) {
        same(call, got ? 1 : 0, want ? 1 : 0, arguments);
    }

    private void setConsistentRelations() {
        NaiveGroup wanted = new NaiveGroup(model.naive.orders);
        draw.consistentRelations(wanted);
        for (int i = 0; i < wanted.orders.length; i++) {
            power(i, wanted.powers[i]);
            for (int j = i + 1; j < wanted.orders.length; j++) {
                conjugate(i, j, wanted.conjugates[i][j]);
            }
        }
    }

    /** One change is what comes nearest to being consistent still. */
    private void changeSomeRelations() {
        for (int changes = draw.oneOf(0, 0, 1, 1, 1, 2); changes > 0; changes--) {
            int i = letter();
            if (draw.below(2) == 0) {
                power(i, wordBehind(i));
            } else {
                conjugate(i, letter(), wordBehind(i));
            }
        }
    }

    /** Places fill up soon; subgroups of one generator each are those with few commutators. */
    private void commuteSmall(int s, int t) {
        clear(s);
        join(s, element());
        clear(t);
        join(t, element());
        commute(s, t, place());
    }

    private void anyCall() {
        switch (draw.below(10)) {
            case 0, 1 -> anyRelation();
            case 2, 3, 4 -> anyElement();
            case 5, 6, 7 -> anySubgroup();
            default -> anySeries();
        }
    }

    private void power(int i, int w) {
        same("power", x.power(i, w), model.power(i, w), i, w);
    }

    private void conjugate(int i, int j, int w) {
        same("conjugate", x.conjugate(i, j, w), model.conjugate(i, j, w), i, j, w);
    }

    private void fix() {
        same("fix", x.fix(), model.fix());
    }

    private void release() {
        made++;
        x.release();
        model.release();
    }

    private void anyRelation() {
        int i = letter();
        int j = letter();
        switch (draw.below(8)) {
            case 0 -> same("generators", x.generators(), model.generators());
            case 1 -> same("size", x.size(), model.size());
            case 2 -> same("generator", x.generator(i), model.generator(i), i);
            case 3 -> power(i, wordBehind(i));
            case 4 -> conjugate(i, j, wordBehind(i));
            case 5 -> fix();
            case 6 -> same("fixed", x.fixed(), model.fixed());
            default -> {
                if (draw.below(3) == 0) {
                    release();
                }
            }
        }
    }

    private void anyElement() {
        int a = element();
        int b = element();
        int k = number();
        switch (draw.below(5)) {
            case 0 -> same("product", x.product(a, b), model.product(a, b), a, b);
            case 1 -> same("times", x.times(a, k), model.times(a, k), a, k);
            case 2 -> same("conjugated", x.conjugated(a, b), model.conjugated(a, b), a, b);
            case 3 -> same("commutator", x.commutator(a, b), model.commutator(a, b), a, b);
            default -> same("order", x.order(a), model.order(a), a);
        }
    }

    private void clear(int s) {
        same("clear", x.clear(s), model.clear(s), s);
    }

    private void join(int s, int a) {
        same("join", x.join(s, a), model.join(s, a), s, a);
    }

    private void commute(int s, int t, int u) {
        same("commute", x.commute(s, t, u), model.commute(s, t, u), s, t, u);
    }

    private void anySubgroup() {
        int s = place();
        int t = place();
        int u = place();
        int a = element();
        switch (draw.below(8)) {
            case 0 -> clear(s);
            case 1, 2 -> join(s, a);
            case 3 -> same("spread", x.spread(s), model.spread(s), s);
            case 4 -> commute(s, t, u);
            case 5 -> same("count", x.count(s), model.count(s), s);
            default -> same("has", x.has(s, a), model.has(s, a), s, a);
        }
    }

    private void anySeries() {
        int a = element();
        int k = draw.below(3) == 0 ? number() : draw.below(9);
        switch (draw.below(6)) {
            case 0 -> same("derived", x.derived(k), model.derived(k), k);
            case 1 -> same("lower", x.lower(k), model.lower(k), k);
            case 2 -> same("centre", x.centre(), model.centre());
            case 3 -> same("classes", x.classes(), model.classes());
            case 4 -> same("kin", x.kin(a), model.kin(a), a);
            default -> same("head", x.head(a), model.head(a), a);
        }
    }

    private boolean seldom() {
        return draw.below(16) == 0;
    }

    private int letter() {
        int n = model.generators();
        return seldom() || n == 0 ? draw.oneOf(-1, n, n + 1, 7, 8, LEAST, MOST) : draw.below(n);
    }

    private int wordBehind(int i) {
        int t = Math.max(1, model.generator(i));
        return seldom() ? draw.oneOf(-1, t, t + 1, model.size(), LEAST, MOST) : draw.below(t);
    }

    private int element() {
        int n = model.size();
        return seldom() ? draw.oneOf(-1, -n, n, n + 1, 128, LEAST, MOST) : draw.below(n);
    }

    private int place() {
        return seldom() ? draw.oneOf(-1, 4, 5, LEAST, MOST) : draw.below(4);
    }

    private int number() {
        int near = draw.below(401) - 200;
        return draw.oneOf(near, near, LEAST - Math.min(near, 0), MOST - Math.max(near, 0), LEAST, MOST, near * 10737418);
    }
}
