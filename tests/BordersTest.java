/**
 * Promises 2 to 41: of each number that is told to a call, the least and the greatest one that is
 * taken, and the next one on either side; where the answer is an index, that it is found there.
 */
public final class BordersTest {
    private static final String SIX = "w40 f01 g9999 b9999 a9999 m9999 c9999 h9999";
    private static final String TWO = "w40 f01 g9999 b9999";
    /** What stands in a table where a number is refused by BAD; a FINDING stands by its number. */
    private static final int BAD = SnowHut.BAD;
    private static final int BEYOND = 2, SIZE = 5;

    public static void main(String[] args) {
        rows();
        texts();
        guests(SIX, 5);
        guests(TWO, 1);
        numbersOfHuts();
        talks();
        triples();
        lots();
        told();
        Due.end("BordersTest");
    }

    /** Six GUESTS of all KINDS, two of them UP; all ROWS (three SAYINGS), TEXTS, kept HUTS are there. */
    private static Pair filled(String signs) {
        Pair pair = new Pair();
        for (int t = 3; t >= 0; t--) {
            pair.write(t, signs);
        }
        pair.takes(11, 0);
        for (int r = 0; r < 6; r++) {
            pair.fill(r, 0, 5, 3);
        }
        pair.takes(16, 0, 1);
        for (int k = 0; k < 3; k++) {
            pair.takes(20, k);
        }
        return pair;
    }

    /** One number of a call goes through its borders; the others stay as they are told. */
    private static void between(Pair pair, int promise, int[] told, int place, int least, int greatest,
            int... refusals) {
        int[] a = told.clone();
        for (int taken : new int[] {least, greatest}) {
            a[place] = taken;
            pair.takes(promise, a.clone());
        }
        for (int below : new int[] {least - 1, least - 2, Integer.MIN_VALUE}) {
            a[place] = below;
            refused(pair, refusals[0], promise, a.clone());
        }
        for (int above : new int[] {greatest + 1, Integer.MAX_VALUE}) {
            a[place] = above;
            refused(pair, refusals[refusals.length - 1], promise, a.clone());
        }
    }

    private static void refused(Pair pair, int refusal, int promise, int[] a) {
        if (refusal == BAD) {
            pair.refuses(BAD, promise, a);
        } else {
            pair.finds(refusal, promise, a);
        }
    }

    private static int[] told(int... a) {
        return a;
    }

    private static void rows() {
        between(filled(SIX), 2, told(0, 3), 0, 0, 5, BAD);
        between(filled(SIX), 2, told(0, 3), 1, 0, 40, SIZE, BAD);
        between(filled(SIX), 3, told(0, 1, 7), 0, 0, 5, BAD);
        between(filled(SIX), 3, told(0, 1, 7), 1, 0, 2, BEYOND);
        between(filled(SIX), 4, told(0, 1), 0, 0, 5, BAD);
        between(filled(SIX), 4, told(5, 1), 1, 0, 2, BEYOND);
        between(filled(SIX), 5, told(0), 0, 0, 5, BAD);
        between(filled(SIX), 6, told(0, 1, 2, 1, 2), 0, 0, 5, BAD);
        between(filled(SIX), 6, told(0, 1, 2, 1, 2), 2, 0, 5, BAD);
        between(filled(SIX), 6, told(0, 1, 2, 1, 2), 1, 0, 1, BEYOND);
        between(filled(SIX), 6, told(0, 1, 2, 1, 2), 3, 0, 1, BEYOND);
        between(filled(SIX), 6, told(0, 1, 2, 1, 2), 4, 0, 2, SIZE, BEYOND);
        between(filled(SIX), 6, told(0, 0, 2, 0, 3), 4, 0, 3, SIZE, BEYOND);
        between(filled(SIX), 6, told(0, 3, 2, 3, 0), 1, 0, 3, BEYOND);
        between(filled(SIX), 6, told(0, 3, 2, 3, 0), 3, 0, 3, BEYOND);
        between(filled(SIX), 6, told(0, 3, 2, 3, 0), 4, 0, 0, SIZE, BEYOND);
        between(filled(SIX), 7, told(0), 0, 0, 5, BAD);
        Pair longest = new Pair();
        longest.takes(2, 5, 40);
        between(longest, 3, told(5, 0, Integer.MIN_VALUE), 1, 0, 39, BEYOND);
        between(longest, 4, told(5, 0), 1, 0, 39, BEYOND);
        between(longest, 6, told(5, 0, 5, 0, 40), 4, 0, 40, SIZE, BEYOND);
        between(longest, 6, told(5, 39, 5, 0, 1), 1, 0, 39, BEYOND);
        longest.takes(2, 1, 0);
        for (int place : new int[] {0, -1, Integer.MAX_VALUE, Integer.MIN_VALUE}) {
            longest.finds(BEYOND, 3, 1, place, 4);
            longest.finds(BEYOND, 4, 1, place);
        }
    }

    private static void texts() {
        between(filled(SIX), 8, told(0, 3), 0, 0, 3, BAD);
        between(filled(SIX), 8, told(0, 3), 1, 0, 60, SIZE, BAD);
        between(filled(SIX), 9, told(0, 1, 7), 0, 0, 3, BAD);
        between(filled(SIX), 9, told(0, 1, 7), 1, 0, SIX.length() - 1, BEYOND);
        between(filled(SIX), 10, told(0), 0, 0, 3, BAD);
        between(filled(SIX), 11, told(0), 0, 0, 3, BAD);
        Pair longest = new Pair();
        longest.takes(8, 3, 60);
        between(longest, 9, told(3, 0, 255), 1, 0, 59, BEYOND);
        longest.takes(8, 1, 0);
        for (int place : new int[] {0, -1, Integer.MAX_VALUE, Integer.MIN_VALUE}) {
            longest.finds(BEYOND, 9, 1, place, 4);
        }
    }

    /** GUESTS are taken by their numbers alone, how many there may be. */
    private static void guests(String signs, int last) {
        between(filled(signs), 12, told(0, 0), 0, 0, last, BAD);
        between(filled(signs), 12, told(last, 0), 1, 0, 6, BAD);
        between(filled(signs), 15, told(0, 0), 0, 0, last, BAD);
        between(filled(signs), 15, told(last, 0), 1, 0, 3, BAD);
        Pair sent = new Pair().withHut(signs);
        sent.takes(16, 0, last);
        sent.takes(16, last, 0);
        between(filled(signs), 29, told(0), 0, 0, last, BAD);
        Pair marks = filled(signs);
        int kind = last == 5 ? 5 : 1;
        for (int beyond : new int[] {-1, last + 1, Integer.MIN_VALUE, Integer.MAX_VALUE}) {
            marks.refuses(BAD, 13, beyond, kind);
            marks.refuses(BAD, 16, beyond, 0);
            marks.refuses(BAD, 16, 0, beyond);
        }
        for (int none : new int[] {0, -1, 6, Integer.MIN_VALUE, Integer.MAX_VALUE}) {
            marks.refuses(BAD, 13, last, none);
        }
        marks.takes(13, last, kind);
        for (int i = 0; i <= last; i++) {
            marks.refuses(BAD, 16, i, i);
        }
    }

    private static void numbersOfHuts() {
        between(filled(SIX), 14, told(0), 0, 0, 15, BAD);
        between(filled(SIX), 17, told(0), 0, 0, 7, BAD);
        between(filled(SIX), 20, told(0), 0, 0, 2, BAD);
        between(filled(SIX), 21, told(0), 0, 0, 2, BAD);
        Pair empty = new Pair();
        for (int n : new int[] {-1, 1, Integer.MIN_VALUE, Integer.MAX_VALUE}) {
            empty.refuses(BAD, 19, n);
        }
        Due.is("19: none of none", empty.takes(19, 0), 0);
        Pair pair = filled(SIX);
        pair.takes(35, 20, 1);
        for (int n = 0; n < 19; n++) {
            pair.takes(17, n % 8);
        }
        for (int n : new int[] {-1, 41, Integer.MIN_VALUE, Integer.MAX_VALUE}) {
            pair.refuses(BAD, 19, n);
        }
        Due.is("19: none of 40", pair.takes(19, 40), 0);
        Due.is("19: the last of 40", pair.takes(19, 39), 1);
        pair.refuses(BAD, 19, 40);
        Due.is("19: all of 39", pair.takes(19, 0), 39);
        pair.refuses(BAD, 19, 1);
    }

    private static void talks() {
        between(filled(SIX), 24, told(0), 0, 0, 5, BAD);
        between(filled(SIX), 25, told(0, 0), 0, 0, 15, BAD);
        between(filled(SIX), 25, told(0, 0), 1, 0, 5, BAD);
        between(filled(SIX), 26, told(0, 0), 0, 0, 15, BAD);
        between(filled(SIX), 26, told(0, 0), 1, 0, 5, BAD);
        between(filled(SIX), 32, told(0), 0, 0, 5, BAD);
        between(filled(SIX), 33, told(0, 0, 4), 0, 0, 3, BAD);
        between(filled(SIX), 33, told(0, 0, 4), 1, 0, 5, BAD);
        between(filled(SIX), 33, told(0, 0, 4), 2, 0, 12, BAD);
        between(filled(SIX), 34, told(0, 4), 0, 0, 5, BAD);
        between(filled(SIX), 34, told(0, 4), 1, 0, 12, BAD);
        for (int place = 0; place < 6; place++) {
            Pair sayings = filled(SIX);
            for (int saying : new int[] {0, 7, -1, 8, Integer.MIN_VALUE, Integer.MAX_VALUE}) {
                sayings.fill(2, 0, 0, 0, 0, 0, 0);
                sayings.call(3, 2, place, saying);
                boolean is = saying == 0 || saying == 7;
                takenOrUnlike(sayings, is, 24, 2);
                takenOrUnlike(sayings, is, 33, 0, 2, 4);
                takenOrUnlike(sayings, is, 34, 2, 4);
            }
        }
    }

    private static void takenOrUnlike(Pair pair, boolean taken, int promise, int... a) {
        if (taken) {
            pair.takes(promise, a);
        } else {
            pair.finds(3, promise, a);
        }
    }

    private static void triples() {
        for (int promise = 30; promise <= 31; promise++) {
            Pair pair = filled(SIX);
            for (int r = 0; r < 6; r++) {
                pair.fill(r, 0, 9, 11);
            }
            between(pair, promise, told(0, 0), 0, 0, 5, BAD);
            between(pair, promise, told(0, 0), 1, 0, 5, BAD);
            int[] least = {0, 0, 9};
            int[] greatest = {3, 20, 13};
            for (int place = 0; place < 6; place++) {
                Pair triples = new Pair().withHut(TWO);
                int low = least[place % 3];
                int high = greatest[place % 3];
                for (int v : new int[] {low, high, low - 1, high + 1, Integer.MIN_VALUE, Integer.MAX_VALUE}) {
                    triples.fill(4, 0, 9, 11, 0, 9, 11);
                    triples.call(3, 4, place, v);
                    takenOrUnlike(triples, v == low || v == high, promise, 1, 4);
                }
            }
        }
    }

    private static void lots() {
        between(filled(SIX), 35, told(1, 77), 0, 1, 20, BAD);
        between(filled(SIX), 35, told(2, 77), 1, 1, 2147483646, BAD);
    }

    private static void told() {
        between(filled(SIX), 39, told(0), 0, 0, 10, BAD);
        between(filled(SIX), 41, told(1), 0, 1, 5, BAD);
    }
}
