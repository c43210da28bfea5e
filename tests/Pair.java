/** The class and its twin, to which the same calls are made: both are to answer and to tell alike. */
final class Pair {
    static final String[] NAMES = {"", "", "row", "lay", "at", "tear", "copy", "mean", "text", "put",
        "fault", "hut", "guest", "mark", "follows", "moved", "send", "say", "wood", "undo", "keep", "on", "both",
        "can", "talk", "soonest", "ways", "match", "sets", "change", "kinds", "test", "duel", "odds", "mid", "lots",
        "asked", "upper", "lower", "count", "finding", "findings", "digest"};
    private static final int[] NO_ARGUMENTS = {};

    final SnowHut x = new SnowHut();
    private final Twin twin = new Twin();
    private int calls = 0;

    static String named(int promise, int... a) {
        StringBuilder what = new StringBuilder().append(promise).append(": ").append(NAMES[promise]).append('(');
        for (int i = 0; i < a.length; i++) {
            what.append(i == 0 ? "" : ", ").append(a[i]);
        }
        return what.append(')').toString();
    }

    /** How many calls were made so: the document promises nothing of an object behind its 512th. */
    int calls() {
        return calls;
    }

    long call(int promise, int... a) {
        calls++;
        long want = twin.call(promise, a);
        long got = SnowHutCalls.call(x, promise, a);
        String what = named(promise, a);
        Due.is(what, got, want);
        Due.is(what + ", asked()", x.asked(), twin.call(36, NO_ARGUMENTS));
        Due.is(what + ", upper()", x.upper(), twin.call(37, NO_ARGUMENTS));
        Due.is(what + ", lower()", x.lower(), twin.call(38, NO_ARGUMENTS));
        Due.is(what + ", finding()", x.finding(), twin.call(40, NO_ARGUMENTS));
        Due.is(what + ", digest()", x.digest(), twin.call(42, NO_ARGUMENTS));
        return got;
    }

    /** A call that is refused by BAD, FULL, STATE or SPENT (or answers NONE), and changes nothing. */
    void refuses(int answer, int promise, int... a) {
        Due.refuses(named(promise, a), x, answer, () -> (int) call(promise, a));
    }

    /** A call that is refused by a FINDING, and changes nothing but finding() and findings(). */
    void finds(int finding, int promise, int... a) {
        Due.finds(named(promise, a), x, finding, () -> (int) call(promise, a));
    }

    /** A call that is taken: it answers no refusal. */
    long takes(int promise, int... a) {
        long got = call(promise, a);
        Due.is(named(promise, a) + " is taken", got >= 0 || got == SnowHut.NONE || promise >= 36 ? 1 : 0, 1);
        return got;
    }

    void write(int t, String signs) {
        call(8, t, signs.length());
        for (int i = 0; i < signs.length(); i++) {
            call(9, t, i, signs.charAt(i));
        }
    }

    /** A HUT by a TEXT (number 0, which stays there). */
    Pair withHut(String signs) {
        write(0, signs);
        takes(11, 0);
        return this;
    }

    /** The same, and the first two GUESTS sent UP. */
    Pair withTwoUp(String signs) {
        withHut(signs);
        takes(16, 0, 1);
        return this;
    }

    void fill(int r, int... values) {
        call(2, r, values.length);
        for (int i = 0; i < values.length; i++) {
            call(3, r, i, values[i]);
        }
    }
}
