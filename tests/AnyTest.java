/**
 * All promises, and what LANGUAGE.md asks of all calls: whatever numbers a call gets, in whichever
 * state, it answers, as its twin does. Numbers at and far beyond the borders come with one another.
 */
public final class AnyTest {
    private static final int LEAST = Integer.MIN_VALUE, GREATEST = Integer.MAX_VALUE;
    private static final int[] NUMBERS = {LEAST, LEAST + 1, -2, -1, 0, 1, 2, 3, 4, 5, 6, 7, 8, 12, 13, 15, 16, 20, 21, 39,
        40, 41, 60, 61, 255, 65536, GREATEST - 1, GREATEST};
    private static final int[] SOME = {LEAST, -1, 0, 1, 3, 5, 6, 12, 13, 40, GREATEST};
    private static final int[] FEW = {LEAST, -1, 0, 2, 6, GREATEST};
    private static final int[] NONE = {0};
    /** How many numbers each call gets, from row() on. */
    private static final int[] TAKES = {2, 3, 2, 1, 5, 1, 2, 3, 1, 1, 2, 2, 1, 2, 2, 1, 0, 1, 1, 1, 0, 0, 1, 2, 2, 0, 0, 1, 2, 2,
        1, 3, 2, 2, 0, 0, 0, 1, 0, 1, 0};
    private static final int STATES = 6;
    /** Some calls lead out of the state that is meant: so an object is not kept for long. */
    private static final int CALLS_MOST = 250;

    private final int state;
    private Pair pair;

    private AnyTest(int state) {
        this.state = state;
        pair = inState(state);
    }

    public static void main(String[] args) {
        for (int state = 0; state < STATES; state++) {
            for (int promise = 2; promise <= 42; promise++) {
                new AnyTest(state).callAll(promise, TAKES[promise - 2]);
            }
        }
        Due.end("AnyTest");
    }

    private static Pair inState(int state) {
        Pair pair = new Pair();
        if (state == 0) {
            return pair;
        }
        pair.write(0, "w04 f01f12f20 c8639 h4291 m3570 a4536 b5493 g6475");
        pair.takes(8, 3, 0);
        pair.fill(0, 0, 5, 3, 2, 7, 1);
        pair.fill(2, 1, 9, 12, 3, 0, 10);
        pair.takes(2, 5, 40);
        if (state >= 2) {
            pair.takes(11, 0);
        }
        if (state >= 3) {
            pair.takes(16, 4, 3);
            pair.takes(20, 2);
        }
        if (state >= 4) {
            pair.takes(17, 0);
            pair.takes(35, 7, 20261120);
            pair.takes(20, 0);
        }
        if (state >= 5) {
            pair.takes(35, 20, 4711);
            for (int n = pair.x.count(2); n < 40; n++) {
                pair.takes(16, n % 2, 5 - n % 2);
            }
        }
        return pair;
    }

    private void callAll(int promise, int takes) {
        int[] numbers = takes <= 2 ? NUMBERS : takes == 3 ? SOME : FEW;
        int[] first = takes >= 1 ? numbers : NONE;
        int[] second = takes >= 2 ? numbers : NONE;
        int[] third = takes >= 3 ? numbers : NONE;
        int[] more = takes >= 4 ? numbers : NONE;
        for (int a : first) {
            for (int b : second) {
                for (int c : third) {
                    for (int d : more) {
                        for (int e : more) {
                            call(promise, takes, a, b, c, d, e);
                        }
                    }
                }
            }
        }
    }

    private void call(int promise, int takes, int... numbers) {
        if (pair.calls() >= CALLS_MOST) {
            pair = inState(state);
        }
        pair.call(promise, java.util.Arrays.copyOf(numbers, takes));
    }
}
