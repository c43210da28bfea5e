import java.util.Random;

/** All promises: the class and its twin answer many calls, drawn by fixed seeds, alike. */
public final class TwinTest {
    private static final int OBJECTS = 150, CALLS = 500;

    private final Random lot;
    private final Pair pair = new Pair();
    private final int[] answered;

    private TwinTest(long seed, int[] answered) {
        lot = new Random(seed);
        this.answered = answered;
    }

    public static void main(String[] args) {
        int[] answered = new int[43];
        for (int seed = 1; seed <= OBJECTS; seed++) {
            new TwinTest(seed, answered).run();
        }
        beside(answered);
        for (int promise = 2; promise <= 42; promise++) {
            Due.is("calls of " + Pair.NAMES[promise] + "() that were not refused are some", answered[promise] >= 20 ? 1 : 0, 1);
        }
        Due.end("TwinTest");
    }

    /** Some objects by turns: what is done to one is nothing to the others. */
    private static void beside(int[] answered) {
        TwinTest[] some = new TwinTest[6];
        for (int i = 0; i < some.length; i++) {
            some[i] = new TwinTest(OBJECTS + 1 + i, answered);
        }
        for (boolean on = true; on;) {
            on = false;
            for (TwinTest one : some) {
                on |= one.step();
            }
        }
    }

    private void run() {
        while (step()) {
            // Each step makes its calls; there is nothing to do between two of them.
        }
    }

    /** Some calls more; false when there were as many as there are to be. */
    private boolean step() {
        if (pair.calls() >= CALLS) {
            return false;
        }
        int kind = lot.nextInt(pair.calls() < 80 ? 12 : 60);
        if (kind == 0 && pair.calls() < CALLS - 70) {
            write();
        } else if (kind == 1 && pair.calls() < CALLS - 60) {
            fill();
        } else {
            any();
        }
        return true;
    }

    private void both(int promise, int... a) {
        answered[promise] += pair.call(promise, a) >= 0 ? 1 : 0;
    }

    /** A TEXT, most times of a HUT, and then the HUT. */
    private void write() {
        StringBuilder text = new StringBuilder(" ".repeat(lot.nextInt(2)));
        text.append('w').append(lot.nextInt(5)).append(lot.nextInt(6) == 0 ? lot.nextInt(10) : 0);
        for (int guests = 2 + lot.nextInt(5), n = 0; n < guests; n++) {
            text.append(" ".repeat(lot.nextInt(8) == 0 ? 1 : 0));
            for (int k = lot.nextInt(3); k > 0; k--) {
                int from = lot.nextInt(4);
                text.append('f').append(from).append((from + 1 + lot.nextInt(3)) % 4);
            }
            text.append("gbamch".charAt(lot.nextInt(6)));
            for (int claim = 0; claim < 4; claim++) {
                text.append((char) ('0' + (lot.nextBoolean() ? 2 + lot.nextInt(5) : lot.nextInt(10))));
            }
        }
        text.setLength(Math.min(text.length(), 60));
        if (lot.nextInt(3) == 0) {
            text.setCharAt(lot.nextInt(text.length()), "wfgbamch 0123456789x\u00e9".charAt(lot.nextInt(21)));
        }
        if (lot.nextInt(6) == 0) {
            text.setLength(lot.nextInt(text.length()));
        }
        int t = lot.nextInt(4);
        both(8, t, text.length());
        for (int i = 0; i < text.length(); i++) {
            both(9, t, i, text.charAt(i));
        }
        both(10, t);
        both(11, t);
        both(16, 0, 1);
    }

    /** A ROW of SAYINGS or triples, most of them well. */
    private void fill() {
        int r = lot.nextInt(6);
        boolean triples = lot.nextBoolean();
        int n = triples ? 3 * lot.nextInt(3) : lot.nextInt(8);
        both(2, r, n);
        for (int i = 0; i < n; i++) {
            int saying = lot.nextInt(20) == 0 ? 8 : lot.nextInt(8);
            int told = i % 3 == 0 ? lot.nextInt(4) : i % 3 == 1 ? lot.nextInt(21) : 9 + lot.nextInt(5);
            both(3, r, i, triples ? told : saying);
        }
        int i = lot.nextInt(3);
        both(triples ? 30 : 24, triples ? new int[] {i, r} : new int[] {r});
        both(triples ? 31 : 34, triples ? new int[] {i, r} : new int[] {r, lot.nextInt(13)});
    }

    private int near(int most) {
        int odd = lot.nextInt(40);
        return odd == 0 ? -1 : odd == 1 ? most + 1 : odd == 2 ? lot.nextInt() : lot.nextInt(most + 1);
    }

    private void any() {
        int promise = 2 + lot.nextInt(41);
        if (promise == 11 || promise == 19) {
            // These undo much: seldom.
            promise = lot.nextInt(6) == 0 ? promise : 17;
        }
        switch (promise) {
            case 2 -> both(2, near(5), near(lot.nextInt(4) == 0 ? 40 : 6));
            case 3 -> both(3, near(5), near(3), near(9));
            case 4 -> both(4, near(5), near(3));
            case 6 -> both(6, near(5), near(3), near(5), near(3), near(3));
            case 5, 7, 24 -> both(promise, near(5));
            case 8 -> both(8, near(3), near(60));
            case 9 -> both(9, near(3), near(20), near(300));
            case 10, 11 -> both(promise, near(3));
            case 12 -> both(12, near(5), near(6));
            case 13 -> both(13, near(5), near(5));
            case 14 -> both(14, near(15));
            case 15 -> both(15, near(5), near(3));
            case 16 -> both(16, near(5), near(5));
            case 17 -> both(17, near(7));
            case 19 -> both(19, near(40));
            case 20, 21 -> both(promise, near(2));
            case 25 -> both(25, lot.nextBoolean() ? 0 : near(15), near(5));
            case 26 -> both(26, lot.nextBoolean() ? 0 : near(15), near(5));
            case 29 -> both(29, near(5));
            case 30, 31 -> both(promise, near(5), near(5));
            case 32 -> both(32, near(5));
            case 33 -> both(33, near(3), near(5), near(12));
            case 34 -> both(34, near(5), near(12));
            case 35 -> both(35, 1 + near(8), lot.nextInt(8) == 0 ? near(3) : 1 + lot.nextInt(2147483646));
            case 39 -> both(39, near(10));
            case 41 -> both(41, near(5));
            default -> both(promise);
        }
    }
}
