/**
 * Promises 2 to 41: where two refusals fit one call, which of them is answered; and that a call
 * that is refused changes nothing but finding() and findings(), which BAD, FULL, STATE, SPENT and
 * NONE leave as they are. Each line that stands here has both refusals fit.
 */
public final class OrderTest {
    private static final String ALL_HELD = "w40 f01 g9999 b9999";
    private static final int BAD = SnowHut.BAD, FULL = SnowHut.FULL, STATE = SnowHut.STATE, SPENT = SnowHut.SPENT;
    private static final int NOTHING = 1, BEYOND = 2, UNLIKE = 3, SIZE = 5;

    public static void main(String[] args) {
        rows();
        copies();
        texts();
        huts();
        deeds();
        deedsWhenFull();
        talks();
        triples();
        chances();
        lots();
        Due.end("OrderTest");
    }

    private static void rows() {
        Pair none = new Pair();
        none.refuses(BAD, 2, 6, -1);
        none.refuses(BAD, 2, -1, Integer.MIN_VALUE);
        none.refuses(BAD, 2, -1, 41);
        none.refuses(BAD, 3, 6, -1, 0);
        none.refuses(BAD, 4, -1, -1);
        none.finds(NOTHING, 3, 0, -1, 5);
        none.finds(NOTHING, 3, 5, 40, 5);
        none.finds(NOTHING, 4, 0, -1);
        none.finds(NOTHING, 4, 5, 40);
        none.refuses(BAD, 5, 6);
        none.refuses(BAD, 7, 6);
        // A ROW that is torn is as one that never was, whatever it was like.
        none.fill(2, 8, 9);
        none.takes(5, 2);
        none.finds(NOTHING, 4, 2, 1);
        none.finds(NOTHING, 7, 2);
        none.finds(NOTHING, 5, 2);
    }

    private static void copies() {
        Pair pair = new Pair();
        pair.fill(1, 4, 5);
        for (int wrong : new int[] {-1, 6, Integer.MIN_VALUE, Integer.MAX_VALUE}) {
            pair.refuses(BAD, 6, wrong, 0, 1, 0, -1);
            pair.refuses(BAD, 6, 1, 0, wrong, 0, -1);
            pair.refuses(BAD, 6, wrong, 0, 0, 0, 1);
            pair.refuses(BAD, 6, 0, 0, wrong, 0, 1);
            pair.refuses(BAD, 6, wrong, -1, 1, 0, 1);
            pair.refuses(BAD, 6, 1, 9, wrong, 0, 1);
        }
        pair.finds(SIZE, 6, 0, 0, 1, 0, -1);
        pair.finds(SIZE, 6, 1, 0, 0, 0, -1);
        pair.finds(SIZE, 6, 1, -1, 1, 0, -1);
        pair.finds(SIZE, 6, 1, 0, 1, 3, Integer.MIN_VALUE);
        pair.finds(NOTHING, 6, 0, -1, 1, 0, 1);
        pair.finds(NOTHING, 6, 0, 0, 1, 0, 9);
        pair.finds(NOTHING, 6, 1, 0, 0, -1, 1);
        pair.finds(NOTHING, 6, 1, 3, 0, 0, 0);
        pair.finds(NOTHING, 6, 0, 0, 0, 0, 0);
    }

    private static void texts() {
        Pair pair = new Pair();
        pair.refuses(BAD, 8, 4, -1);
        pair.refuses(BAD, 8, -1, 61);
        pair.refuses(BAD, 9, 4, -1, 0);
        pair.finds(NOTHING, 9, 0, -1, 5);
        pair.finds(NOTHING, 9, 3, 60, 5);
        pair.refuses(BAD, 10, -1);
        pair.finds(NOTHING, 10, 0);
        pair.refuses(BAD, 11, -1);
        pair.finds(NOTHING, 11, 0);
    }

    private static void huts() {
        Pair none = new Pair();
        none.refuses(BAD, 12, 0, 7);
        none.refuses(BAD, 13, 0, 0);
        none.refuses(BAD, 20, 3);
        none.refuses(BAD, 20, -1);
        none.refuses(STATE, 20, 0);
        none.refuses(BAD, 21, 3);
        none.finds(NOTHING, 21, 2);
        Pair pair = new Pair().withHut("w40 g9999 b9999 c9999 h9999");
        pair.refuses(BAD, 13, 4, 2);
        pair.refuses(BAD, 13, 0, 6);
        pair.refuses(BAD, 13, 1, 0);
        pair.finds(UNLIKE, 13, 0, 1);
        pair.finds(UNLIKE, 13, 1, 4);
        pair.finds(UNLIKE, 13, 2, 2);
        pair.finds(UNLIKE, 13, 3, 1);
    }

    private static void deeds() {
        Pair nobody = new Pair().withHut("w00 g9999 b0000");
        for (int saying : new int[] {-1, 8}) {
            nobody.refuses(BAD, 17, saying);
        }
        nobody.refuses(STATE, 17, 0);
        nobody.takes(16, 0, 1);
        nobody.refuses(BAD, 17, 8);
        nobody.refuses(STATE, 17, 4);
        nobody.refuses(SPENT, 17, 0);
        nobody.refuses(BAD, 16, 2, 2);
        nobody.refuses(STATE, 16, 0, 1);
        nobody.refuses(STATE, 18);
    }

    private static void deedsWhenFull() {
        Pair wood = new Pair().withTwoUp("w40 g9999 b9990");
        for (int n = 1; n < 40; n++) {
            wood.takes(17, 0);
        }
        wood.refuses(BAD, 16, 0, 2);
        wood.refuses(BAD, 16, 1, 1);
        wood.refuses(STATE, 16, 0, 1);
        wood.refuses(FULL, 16, 1, 0);
        wood.refuses(BAD, 17, -1);
        wood.refuses(BAD, 17, 8);
        wood.refuses(STATE, 17, 7);
        wood.refuses(FULL, 17, 0);
        wood.refuses(FULL, 18);
        wood.refuses(BAD, 35, 0, 1);
        wood.refuses(BAD, 35, 1, 0);
        wood.refuses(FULL, 35, 1, 1);
        Due.is("20: with 40 deeds", wood.takes(20, 2), 40);
        wood.takes(19, 0);
        Due.is("21: with 40 deeds", wood.takes(21, 2), 40);
        wood.refuses(FULL, 17, 0);
        Pair spent = new Pair().withTwoUp("w38 g9999 b9990");
        for (int n = 1; n < 39; n++) {
            spent.takes(17, 0);
        }
        spent.refuses(SPENT, 17, 0);
        spent.takes(16, 1, 0);
        spent.refuses(BAD, 17, 8);
        spent.refuses(STATE, 17, 3);
        spent.refuses(SPENT, 17, 0);
        spent.refuses(FULL, 18);
        Pair brought = new Pair().withTwoUp("w05 g9999 b9999");
        brought.takes(35, 20, 7);
        brought.takes(35, 18, 7);
        brought.takes(18);
        Due.is("18: 40 deeds", brought.x.count(2), 40);
        brought.refuses(STATE, 18);
        brought.refuses(STATE, 16, 0, 1);
    }

    private static void talks() {
        Pair none = new Pair();
        Pair nobody = new Pair().withHut(ALL_HELD);
        for (Pair pair : new Pair[] {none, nobody}) {
            pair.fill(0, 0, 9);
            pair.refuses(STATE, 22);
            pair.refuses(STATE, 23);
            pair.refuses(BAD, 24, 6);
            pair.refuses(BAD, 24, -1);
            pair.refuses(STATE, 24, 1);
            pair.refuses(STATE, 24, 0);
            pair.refuses(BAD, 25, 16, 0);
            pair.refuses(BAD, 25, -1, 0);
            pair.refuses(BAD, 25, 0, 6);
            pair.refuses(BAD, 25, 0, -1);
            pair.refuses(STATE, 25, 15, 5);
            pair.refuses(BAD, 26, 16, 0);
            pair.refuses(BAD, 26, -1, 0);
            pair.refuses(BAD, 26, 0, 6);
            pair.refuses(BAD, 26, 0, -1);
            pair.refuses(STATE, 26, 15, 5);
            pair.refuses(BAD, 32, 6);
            pair.refuses(BAD, 32, -1);
            pair.refuses(STATE, 32, 5);
        }
        none.refuses(STATE, 27);
        none.refuses(STATE, 28);
        none.refuses(BAD, 29, 0);
        nobody.takes(27);
        nobody.takes(28);
        nobody.takes(16, 1, 0);
        nobody.refuses(BAD, 24, 6);
        nobody.finds(NOTHING, 24, 1);
        nobody.finds(UNLIKE, 24, 0);
    }

    private static void triples() {
        for (int promise = 30; promise <= 31; promise++) {
            Pair none = new Pair();
            none.refuses(BAD, promise, 0, 0);
            Pair pair = new Pair().withHut(ALL_HELD);
            pair.fill(1, 4, 21);
            pair.fill(2, 4, 21, 8);
            pair.fill(3, 0, 9, 9, 0);
            for (int r = 0; r < 4; r++) {
                pair.refuses(BAD, promise, -1, r);
                pair.refuses(BAD, promise, 2, r);
            }
            pair.refuses(BAD, promise, 0, 6);
            pair.finds(NOTHING, promise, 0, 0);
            pair.finds(SIZE, promise, 0, 1);
            pair.finds(UNLIKE, promise, 0, 2);
            pair.finds(SIZE, promise, 0, 3);
            // Where no KIND is left by the first triple, a number that is none is UNLIKE yet.
            pair.fill(2, 0, 9, 9, 0, 9, 14);
            pair.finds(UNLIKE, promise, 1, 2);
        }
        Pair pair = new Pair().withHut(ALL_HELD);
        pair.fill(2, 0, 9, 9);
        Due.is("30: there is no kind", pair.takes(30, 0, 2), 0);
        pair.refuses(SnowHut.NONE, 31, 0, 2);
    }

    private static void chances() {
        chancesOf(new int[] {33, 2});
        chancesOf(new int[] {34});
        Pair claims = new Pair().withHut(ALL_HELD);
        claims.fill(1, 0, 0, 0, 0, 0, 0, 0);
        for (int r = 0; r < 2; r++) {
            claims.refuses(BAD, 33, -1, r, 3);
            claims.refuses(BAD, 33, 4, r, 3);
        }
        claims.takes(16, 0, 1);
        claims.refuses(BAD, 33, 4, 0, 3);
        claims.refuses(BAD, 33, -1, 1, 3);
    }

    /** odds() of a CLAIM or mid(): both are refused alike. */
    private static void chancesOf(int[] call) {
        Pair pair = new Pair().withHut(ALL_HELD);
        pair.fill(1, 0, 0, 0, 0, 0, 0, 8);
        pair.fill(2, 0, 8);
        for (int up = 0; up < 2; up++) {
            for (int r = 0; r < 3; r++) {
                refuses(pair, BAD, call, r, 13);
                refuses(pair, BAD, call, r, -1);
            }
            refuses(pair, BAD, call, 6, 3);
            refuses(pair, BAD, call, -1, 3);
            if (up == 0) {
                for (int r = 0; r < 3; r++) {
                    refuses(pair, STATE, call, r, 3);
                }
                pair.takes(16, 0, 1);
            }
        }
        finds(pair, NOTHING, call, 0, 3);
        finds(pair, SIZE, call, 1, 3);
        finds(pair, UNLIKE, call, 2, 3);
    }

    private static int[] with(int[] call, int r, int p) {
        return call.length == 2 ? new int[] {call[1], r, p} : new int[] {r, p};
    }

    private static void refuses(Pair pair, int answer, int[] call, int r, int p) {
        pair.refuses(answer, call[0], with(call, r, p));
    }

    private static void finds(Pair pair, int finding, int[] call, int r, int p) {
        pair.finds(finding, call[0], with(call, r, p));
    }

    private static void lots() {
        Pair none = new Pair();
        none.refuses(BAD, 35, 21, 1);
        none.refuses(BAD, 35, 1, 0);
        none.refuses(STATE, 35, 20, 2147483646);
        Pair pair = new Pair().withHut(ALL_HELD);
        pair.refuses(BAD, 35, 0, 1);
        pair.refuses(BAD, 35, 1, Integer.MAX_VALUE);
        pair.refuses(STATE, 35, 1, 1);
        pair.takes(16, 0, 1);
        pair.takes(35, 20, 9);
        pair.refuses(BAD, 35, 21, 9);
        pair.refuses(BAD, 35, 20, 0);
        pair.refuses(FULL, 35, 20, 9);
        pair.takes(35, 19, 9);
        Due.is("35: 40 deeds", pair.x.count(2), 40);
        pair.refuses(FULL, 35, 1, 9);
        pair.takes(19, 20);
        pair.takes(35, 20, 9);
        Due.is("35: 40 deeds again", pair.x.count(2), 40);
    }
}
