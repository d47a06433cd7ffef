/** All that calls can see of an object without changing it, as one text. */
final class View {
    private View() {
    }

    /** Of a small group (some 80 calls for six elements). */
    static String of(CollectedGroup x) {
        StringBuilder seen = new StringBuilder();
        int generators = x.generators();
        int n = x.size();
        seen.append(x.fixed()).append(" generators");
        for (int i = -1; i <= generators; i++) {
            seen.append(' ').append(x.generator(i));
        }
        seen.append(" products");
        for (int a = 0; a < n; a++) {
            for (int b = 0; b < n; b++) {
                seen.append(' ').append(x.product(a, b));
            }
        }
        for (int s = 0; s < 4; s++) {
            seen.append(" place ").append(x.count(s)).append(':');
            for (int a = 0; a < n; a++) {
                seen.append(x.has(s, a) ? '1' : '0');
            }
        }
        return seen.append(" derived ").append(x.derived(1)).append(" lower ").append(x.lower(2))
            .append(" centre ").append(x.centre()).append(" classes ").append(x.classes()).toString();
    }
}
