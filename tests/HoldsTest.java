/** Promises 28 to 31: what holds together, who one is. */
public final class HoldsTest {
    /** Claim 1 follows from 0; the first holds 0 alone, the other one nothing. */
    private static final String ONE_REASON = "w09 f01 g6000 b0000";

    public static void main(String[] args) {
        sets();
        change();
        changeLater();
        kindsByOne();
        kindsBySome();
        kindsAsNow();
        test();
        testOfFewerKinds();
        testAsNow();
        triplesRefused();
        Due.end("HoldsTest");
    }

    private static void setsAre(String reasons, int sets, int inAll) {
        SnowHut x = Due.hut("w00" + reasons + "g9000h0900");
        Due.answers("28: sets() with " + reasons, x, x.sets(), sets, inAll);
    }

    private static void sets() {
        SnowHut none = new SnowHut();
        Due.refuses("28: no guests", none, SnowHut.STATE, none::sets);
        setsAre("", 16, 0);
        setsAre("f01", 12, 0);
        setsAre("f01f10", 8, 0);
        setsAre("f03f13f23", 9, 8);
        setsAre("f01f12f23", 5, 8);
        setsAre("f32f21f10", 5, 1);
        setsAre("f01f10f12f03", 5, 0);
        setsAre("f01f12f23f32", 4, 12);
        setsAre("f01f12f23f30", 2, 15);
        SnowHut x = Due.hutWithTwoUp("w09 f12 g9900 h9990");
        x.say(0);
        Due.answers("28: whoever is up", x, x.sets(), 12, 0);
    }

    private static void changeIs(SnowHut x, int i, int fewest, int set) {
        Due.answers("29: change(" + i + ")", x, x.change(i), fewest, set);
    }

    private static void change() {
        SnowHut x = Due.hut("w00 f01f12f23 g5000 g5555 g5050 g0550 g5505 g5005");
        changeIs(x, 0, 1, 0);
        changeIs(x, 1, 0, 15);
        changeIs(x, 2, 2, 0);
        changeIs(x, 3, 1, 14);
        changeIs(x, 4, 1, 15);
        changeIs(x, 5, 1, 8);
        SnowHut kinds = Due.hut("w00 f10 g0500 c0600 c0700 h0300 h0200 a4900");
        changeIs(kinds, 0, 1, 0);
        changeIs(kinds, 1, 0, 0);
        changeIs(kinds, 2, 1, 0);
        changeIs(kinds, 3, 1, 0);
        changeIs(kinds, 4, 0, 0);
        changeIs(kinds, 5, 1, 0);
        SnowHut more = Due.hut("w00 f03f13f23 g5550 g5500 g0005");
        changeIs(more, 0, 1, 15);
        changeIs(more, 1, 1, 11);
        changeIs(more, 2, 0, 8);
        SnowHut round = Due.hut("w00 f01f12f20 g5059 g5550");
        changeIs(round, 0, 1, 15);
        changeIs(round, 1, 0, 7);
        Due.refuses("29: i below", x, SnowHut.BAD, () -> x.change(-1));
        Due.refuses("29: i above", x, SnowHut.BAD, () -> x.change(6));
        Due.refuses("29: no third guest", round, SnowHut.BAD, () -> round.change(2));
        SnowHut none = new SnowHut();
        Due.refuses("29: no guests", none, SnowHut.BAD, () -> none.change(0));
    }

    private static void changeLater() {
        SnowHut x = Due.hutWithTwoUp("w09 f01 g9400 g4900");
        changeIs(x, 0, 1, 0);
        x.say(5);
        changeIs(x, 0, 0, 3);
        long ahead = x.digest();
        x.change(0);
        Due.is("29: nothing is changed", x.digest(), ahead);
    }

    /** The KINDS by triples, in row 0. */
    private static void kindsAre(SnowHut x, int i, int kinds, int... triples) {
        Due.fill(x, 0, triples);
        long ahead = x.digest();
        int asked = x.asked();
        Due.is("30: kinds(" + i + ", 0)", x.kinds(i, 0), kinds);
        Due.is("30: kinds(), digest() behind", x.digest(), ahead);
        Due.is("30: kinds() tells nothing by asked()", x.asked(), asked);
    }

    private static void kindsByOne() {
        SnowHut x = Due.hut(ONE_REASON);
        kindsAre(x, 0, 63);
        kindsAre(x, 0, 9, 0, 5, 11);
        kindsAre(x, 0, 1, 0, 4, 11);
        kindsAre(x, 0, 8, 0, 4, 9);
        kindsAre(x, 0, 0, 0, 5, 9);
        kindsAre(x, 0, 18, 0, 5, 10);
        kindsAre(x, 0, 36, 0, 5, 12);
        kindsAre(x, 0, 0, 0, 5, 13);
        kindsAre(x, 0, 3, 1, 0, 12);
        kindsAre(x, 0, 11, 1, 5, 12);
        kindsAre(x, 0, 11, 1, 20, 12);
        kindsAre(x, 0, 16, 1, 0, 10);
        kindsAre(x, 0, 36, 1, 0, 13);
        kindsAre(x, 0, 8, 1, 0, 9);
        kindsAre(x, 0, 0, 1, 0, 11);
        kindsAre(x, 1, 36, 1, 0, 12);
        kindsAre(x, 1, 1, 1, 0, 11);
        kindsAre(x, 1, 9, 1, 5, 11);
        kindsAre(x, 1, 18, 3, 20, 10);
        SnowHut child = Due.hut("w00 f01 g4000 g7000");
        kindsAre(child, 0, 32, 1, 0, 13);
        kindsAre(child, 0, 4, 1, 0, 12);
        kindsAre(child, 1, 19, 1, 0, 12);
    }

    private static void kindsBySome() {
        SnowHut x = Due.hut(ONE_REASON);
        kindsAre(x, 0, 9, 0, 5, 11, 1, 5, 12);
        kindsAre(x, 0, 8, 0, 5, 11, 1, 0, 9);
        kindsAre(x, 0, 1, 0, 5, 11, 1, 0, 12);
        kindsAre(x, 0, 1, 0, 0, 11, 1, 0, 12);
        kindsAre(x, 0, 0, 0, 5, 11, 0, 5, 10);
        kindsAre(x, 0, 2, 2, 9, 10, 1, 0, 12, 3, 1, 10);
        kindsAre(x, 0, 8, 2, 9, 11, 2, 0, 9, 2, 4, 9, 2, 5, 11);
        int[] most = new int[39];
        for (int place = 0; place < most.length; place += 3) {
            most[place] = 2;
            most[place + 1] = place % 20;
            most[place + 2] = 12;
        }
        kindsAre(x, 0, 36, most);
    }

    private static void kindsAsNow() {
        SnowHut x = Due.hutWithTwoUp("w09 f01 g6000 a4000");
        kindsAre(x, 1, 1, 1, 0, 11);
        x.say(0);
        kindsAre(x, 1, 0, 1, 0, 11);
        kindsAre(x, 1, 3, 1, 0, 12);
        kindsAre(x, 1, 16, 1, 0, 10);
        x.undo(1);
        kindsAre(x, 1, 18, 1, 0, 10);
    }

    private static void test() {
        SnowHut x = Due.hut(ONE_REASON);
        Due.fill(x, 0);
        Due.answers("31: of all kinds", x, x.test(0, 0), 0, 2);
        SnowHut y = Due.hut("w00 f01f02 g9000 m0999");
        Due.fill(y, 3, 1, 0, 9);
        Due.answers("31: of one kind", y, y.test(0, 3), 0, 1);
        Due.fill(y, 3, 0, 5, 9);
        int asked = y.asked();
        Due.refuses("31: of no kind", y, SnowHut.NONE, () -> y.test(1, 3));
        Due.is("31: of no kind, asked() stays", y.asked(), asked);
        Due.is("31: no finding", y.finding(), 0);
    }

    private static void testIs(SnowHut x, int claim, int part, int... triples) {
        Due.fill(x, 0, triples);
        long ahead = x.digest();
        Due.answers("31: test(0, 0)", x, x.test(0, 0), claim, part);
        Due.is("31: test(), digest() behind", x.digest(), ahead);
    }

    private static void testOfFewerKinds() {
        SnowHut x = Due.hut(ONE_REASON);
        testIs(x, 1, 1, 0, 5, 10);
        testIs(x, 1, 1, 0, 5, 11);
        testIs(x, 0, 2, 0, 5, 12);
        testIs(x, 0, 1, 1, 0, 12);
        testIs(x, 2, 1, 1, 20, 12);
        testIs(x, 0, 1, 1, 0, 10);
        SnowHut last = Due.hut("w00 f01 g6650 g0000");
        testIs(last, 3, 1, 0, 5, 11);
        SnowHut third = Due.hut("w00 f01 g6606 g0000");
        testIs(third, 2, 1, 0, 5, 11);
        SnowHut one = Due.hut("w00 g0000 g9999");
        testIs(one, 0, 1, 0, 5, 11, 0, 0, 11, 1, 4, 11);
    }

    private static void testAsNow() {
        SnowHut x = Due.hutWithTwoUp("w09 g4999 g9000");
        testIs(x, 0, 1, 0, 5, 11);
        x.say(4);
        testIs(x, 0, 2, 0, 5, 11);
        x.undo(1);
        testIs(x, 0, 1, 0, 5, 11);
        SnowHut mule = Due.hutWithTwoUp("w00 f01 m4999 g9000");
        testIs(mule, 0, 1, 0, 5, 11);
    }

    private static void triplesRefused() {
        SnowHut none = new SnowHut();
        none.row(0, 3);
        Due.refuses("30: no guests", none, SnowHut.BAD, () -> none.kinds(0, 0));
        Due.refuses("31: no guests", none, SnowHut.BAD, () -> none.test(0, 0));
        SnowHut x = Due.hut(ONE_REASON);
        bad(x, -1, 0);
        bad(x, 2, 0);
        bad(x, 0, -1);
        bad(x, 0, 6);
        finds(x, 1, "missing");
        for (int n : new int[] {1, 2, 4, 40}) {
            Due.fill(x, 0, new int[n]);
            finds(x, 5, n + " places, SIZE ahead of UNLIKE");
        }
        Due.fill(x, 0, -1, 0, 9);
        finds(x, 3, "claim below");
        Due.fill(x, 0, 4, 0, 9);
        finds(x, 3, "claim above");
        Due.fill(x, 0, 0, -1, 9);
        finds(x, 3, "weight below");
        Due.fill(x, 0, 0, 21, 9);
        finds(x, 3, "weight above");
        Due.fill(x, 0, 0, 0, 8);
        finds(x, 3, "moved below");
        Due.fill(x, 0, 0, 0, 14);
        finds(x, 3, "moved above");
        Due.fill(x, 0, 0, 5, 13, 0, 0, 14);
        finds(x, 3, "the second triple, where there is no kind by the first");
        Due.fill(x, 0, 3, 20, 13, 3, 0, 9);
        Due.is("30: the edges", x.kinds(0, 0), 0);
    }

    private static void bad(SnowHut x, int i, int r) {
        Due.refuses("30: kinds(" + i + ", " + r + ")", x, SnowHut.BAD, () -> x.kinds(i, r));
        Due.refuses("31: test(" + i + ", " + r + ")", x, SnowHut.BAD, () -> x.test(i, r));
    }

    private static void finds(SnowHut x, int finding, String why) {
        Due.finds("30: " + why, x, finding, () -> x.kinds(0, 0));
        Due.finds("31: " + why, x, finding, () -> x.test(0, 0));
    }
}
