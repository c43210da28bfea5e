/**
 * Promises 36 to 38, 40, 41 (asked(), upper(), lower(), finding(), findings()): each call changes
 * those that the document names for it, and no other ones, whether it is taken or refused.
 */
public final class StaysTest {
    private static final String SIX = "w40 f01 g9999 a9944 b9944 m9999 c9999 h9999";
    /** Calls (by their promises) that are told by asked(), and those that are told by upper(). */
    private static final int[] ASKED = {3, 4, 7, 12, 22, 24, 26, 27, 28, 29, 31};
    private static final int[] SHARES = {26, 33, 34};
    /** What is told ahead of each call that is tried: no call below tells it. */
    private static final int TOLD = 777777;

    private static int tried = 0;

    public static void main(String[] args) {
        atFirst();
        taken();
        refused();
        none();
        lastTold();
        findings();
        Due.end("StaysTest");
    }

    private static boolean among(int promise, int[] promises) {
        for (int p : promises) {
            if (p == promise) {
                return true;
            }
        }
        return false;
    }

    /** asked() is TOLD, upper() by lower() 3 by 4, finding() 5. */
    private static Pair readied() {
        Pair pair = new Pair();
        pair.write(1, "w00");
        pair.write(0, SIX);
        pair.takes(11, 0);
        pair.takes(20, 1);
        pair.fill(0, 2);
        pair.fill(1, 0, 9, 11);
        pair.fill(2, 0, 9, 9);
        pair.fill(4, TOLD);
        pair.takes(16, 0, 1);
        pair.takes(33, 2, 0, 3);
        pair.finds(5, 2, 0, -1);
        pair.takes(4, 4, 0);
        Due.is("36: ahead", pair.x.asked(), TOLD);
        Due.is("37: ahead", pair.x.upper(), 3);
        Due.is("38: ahead", pair.x.lower(), 4);
        return pair;
    }

    private static void atFirst() {
        SnowHut x = new SnowHut();
        Due.is("36: at first", x.asked(), 0);
        Due.is("37: at first", x.upper(), 0);
        Due.is("38: at first", x.lower(), 1);
        Due.is("40: at first", x.finding(), 0);
        for (int f = 1; f <= 5; f++) {
            Due.is("41: at first", x.findings(f), 0);
        }
    }

    private static void taken() {
        int[][] calls = {{2, 3, 5}, {3, 1, 0, 5}, {4, 1, 1}, {5, 1}, {6, 1, 0, 2, 0, 3}, {7, 1}, {8, 2, 9},
            {9, 1, 0, 7}, {10, 0}, {10, 1}, {11, 0}, {12, 0, 0}, {12, 1, 5}, {12, 1, 6}, {13, 2, 1}, {13, 5, 5}, {14, 1},
            {15, 3, 2}, {16, 2, 3}, {17, 0}, {19, 0}, {20, 0}, {21, 1}, {22}, {23}, {24, 0}, {25, 0, 5}, {26, 0, 2},
            {26, 8, 0}, {27}, {28}, {29, 3}, {30, 1, 1}, {31, 1, 1}, {32, 4}, {33, 3, 0, 7}, {34, 0, 7}, {35, 5, 5},
            {36}, {37}, {38}, {39, 5}, {40}, {41, 5}, {42}};
        boolean[] done = new boolean[43];
        for (int[] call : calls) {
            Pair pair = readied();
            staysAs(pair, call[0], java.util.Arrays.copyOfRange(call, 1, call.length));
            done[call[0]] = true;
        }
        Pair wood = readied();
        wood.takes(17, 0);
        staysAs(wood, 18);
        done[18] = true;
        for (int promise = 2; promise <= 42; promise++) {
            Due.is(Pair.NAMES[promise] + "() was tried", done[promise] ? 1 : 0, 1);
        }
        Due.is("as many as there are", tried, calls.length + 1);
    }

    private static void staysAs(Pair pair, int promise, int... a) {
        tried++;
        String what = Pair.named(promise, a);
        pair.takes(promise, a);
        Due.is(what + " tells by asked()", pair.x.asked() == TOLD ? 0 : 1, among(promise, ASKED) ? 1 : 0);
        boolean stays = pair.x.upper() == 3 && pair.x.lower() == 4;
        Due.is(what + " tells by upper()", stays ? 0 : 1, among(promise, SHARES) ? 1 : 0);
        Due.is(what + ", finding()", pair.x.finding(), 5);
        Due.is(what + ", findings(5)", pair.x.findings(5), 1);
    }

    private static void refused() {
        Pair pair = readied();
        int[][] bad = {{2, 6, 0}, {3, 6, 0, 0}, {4, 6, 0}, {5, 6}, {6, 6, 0, 0, 0, 0}, {7, 6}, {8, 4, 0}, {9, 4, 0, 0},
            {10, 4}, {11, 4}, {12, 6, 0}, {13, 0, 6}, {14, 16}, {15, 6, 0}, {16, 6, 0}, {17, 8}, {19, 2}, {20, 3}, {21, 3},
            {24, 6}, {25, 16, 0}, {26, 0, 6}, {29, 6}, {30, 6, 0}, {31, 0, 6}, {32, 6}, {33, 0, 0, 13}, {34, 0, 13},
            {35, 21, 1}, {39, 11}, {41, 6}};
        for (int[] call : bad) {
            pair.refuses(SnowHut.BAD, call[0], java.util.Arrays.copyOfRange(call, 1, call.length));
        }
        int[][] found = {{5, 2, 0, -1}, {1, 3, 5, 0, 0}, {2, 3, 1, 3, 0}, {1, 4, 5, 0}, {2, 4, 1, 3}, {1, 5, 5},
            {5, 6, 1, 0, 1, 0, -1}, {1, 6, 5, 0, 1, 0, 1}, {2, 6, 1, 0, 2, 0, 4}, {1, 7, 5}, {5, 8, 0, -1}, {1, 9, 3, 0, 0},
            {2, 9, 0, -1, 0}, {1, 10, 3}, {1, 11, 3}, {3, 13, 0, 1}, {1, 21, 2}, {1, 24, 5}, {3, 24, 1}, {1, 30, 0, 5},
            {5, 30, 0, 0}, {1, 31, 0, 5}, {5, 31, 0, 0}, {1, 33, 0, 5, 0}, {3, 33, 0, 1, 0}, {1, 34, 5, 0}, {3, 34, 1, 0}};
        for (int[] call : found) {
            pair.finds(call[0], call[1], java.util.Arrays.copyOfRange(call, 2, call.length));
        }
        pair.refuses(SnowHut.STATE, 11, 1);
        pair.refuses(SnowHut.STATE, 16, 0, 1);
        pair.refuses(SnowHut.STATE, 18);
        Due.is("36: behind", pair.x.asked(), TOLD);
        Due.is("37: behind", pair.x.upper(), 3);
        Due.is("38: behind", pair.x.lower(), 4);
        Pair nobody = readied();
        nobody.takes(19, 0);
        int[][] state = {{17, 0}, {22}, {23}, {24, 0}, {25, 0, 0}, {26, 0, 0}, {32, 0}, {33, 0, 0, 0}, {34, 0, 0}, {35, 1, 1}};
        for (int[] call : state) {
            nobody.refuses(SnowHut.STATE, call[0], java.util.Arrays.copyOfRange(call, 1, call.length));
        }
        Due.is("36: behind", nobody.x.asked(), TOLD);
    }

    /** What answers NONE tells nothing. */
    private static void none() {
        Pair pair = readied();
        pair.refuses(SnowHut.NONE, 10, 0);
        pair.refuses(SnowHut.NONE, 31, 0, 2);
        pair.fill(5, 3, 4);
        pair.takes(4, 4, 0);
        Pair apart = new Pair().withTwoUp("w00 b9000 b0900");
        apart.fill(4, TOLD);
        apart.takes(4, 4, 0);
        apart.refuses(SnowHut.NONE, 27);
        apart.refuses(SnowHut.NONE, 25, 0, 4);
        Due.is("36: behind", apart.x.asked(), TOLD);
        Due.is("37: behind", apart.x.upper(), 0);
        Due.is("38: behind", apart.x.lower(), 1);
    }

    /** What was told last counts, in whichever order. */
    private static void lastTold() {
        Pair pair = readied();
        pair.takes(34, 0, 6);
        Due.is("37: mid()", pair.x.upper(), 5);
        Due.is("38: mid()", pair.x.lower(), 2);
        pair.takes(26, 4, 1);
        Due.is("37: ways()", pair.x.upper(), 1);
        Due.is("38: ways()", pair.x.lower(), 1);
        Due.is("36: ways()", pair.x.asked(), 7);
        pair.takes(33, 3, 0, 6);
        Due.is("37: odds()", pair.x.upper(), 0);
        Due.is("38: odds(), 0 by 1", pair.x.lower(), 1);
        Due.is("36: ways() still", pair.x.asked(), 7);
        pair.takes(12, 0, 1);
        Due.is("36: guest()", pair.x.asked(), 9);
        pair.takes(33, 2, 0, 6);
        pair.takes(11, 0);
        Due.is("36: a HUT anew leaves it", pair.x.asked(), 9);
        Due.is("37: a HUT anew leaves it", pair.x.upper(), 1);
        Due.is("38: a HUT anew leaves it", pair.x.lower(), 2);
        Due.is("40: a HUT anew leaves it", pair.x.finding(), 5);
    }

    private static void findings() {
        SnowHut x = new SnowHut();
        for (int n = 1; n <= 60; n++) {
            x.row(0, -n);
            Due.is("41: so often", x.findings(5), n);
            x.tear(5);
            Due.is("41: so often", x.findings(1), n);
            Due.is("40: the latest", x.finding(), 1);
        }
        Due.is("41: no other", x.findings(2) + x.findings(3) + x.findings(4), 0);
        x.row(0, 41);
        Due.is("40: BAD is none", x.finding(), 1);
    }
}
