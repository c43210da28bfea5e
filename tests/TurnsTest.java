/** Promises 32 to 35: by turns, chances, lots. */
public final class TurnsTest {
    public static void main(String[] args) {
        duel();
        duelRefused();
        odds();
        oddsLeftOut();
        oddsRefused();
        mid();
        midRefused();
        lots();
        lotsOfWood();
        lotsRefused();
        Due.end("TurnsTest");
    }

    /** What comes of 0 to 5 turns, without WOOD. */
    private static void duelsAre(String guests, int... want) {
        SnowHut x = Due.hutWithTwoUp("w00" + guests);
        long ahead = x.digest();
        int asked = x.asked();
        for (int n = 0; n < want.length; n++) {
            Due.is("32: duel(" + n + ") of" + guests, x.duel(n), want[n]);
        }
        Due.is("32: aside", x.digest(), ahead);
        Due.is("32: asked() stays", x.asked(), asked);
    }

    private static void duel() {
        duelsAre(" f01f10 g6040 g4600", 0, 1, 1);
        duelsAre(" g9900 g4400", 0, 1, 1, 2, 2, 2);
        duelsAre(" g9900 g3300", 0, 0, 0, 1, 1, 2);
        duelsAre(" g9940 g4000", 0, 1, 1);
        duelsAre(" g9000 a3000", 0, 1, 1, 1, 1, 1);
        duelsAre(" g9000 a2000", 0, 0, 1, 1, 1, 1);
        duelsAre(" g9000 b4000", 0, 0, 0, 0, 0, 0);
        duelsAre(" g9000 m4000", 0, 0, 0, 0, 0, 0);
        duelsAre(" g0000 g4444", 0, 0, 0, 0, 0, 0);
        duelsAre(" g9999 h9999", 4, 4, 4, 4, 4, 4);
        duelsAre(" g4900 g9400", 0, 1, 1, 2, 2, 2);
        duelsAre(" g0004 g0009", 0, 1, 1, 1, 1, 1);
        SnowHut x = Due.hutWithTwoUp("w01 g9000 g3000");
        Due.is("32: as it is now", x.duel(1), 0);
        x.say(0);
        Due.is("32: as it is then", x.duel(1), 1);
    }

    private static void duelRefused() {
        SnowHut x = Due.hut("w00 g9900 g4400");
        Due.refuses("32: nobody is up", x, SnowHut.STATE, () -> x.duel(0));
        Due.refuses("32: BAD ahead of STATE", x, SnowHut.BAD, () -> x.duel(6));
        x.send(0, 1);
        Due.refuses("32: n below", x, SnowHut.BAD, () -> x.duel(-1));
        Due.refuses("32: n above", x, SnowHut.BAD, () -> x.duel(6));
        SnowHut none = new SnowHut();
        Due.refuses("32: no guests", none, SnowHut.STATE, () -> none.duel(0));
    }

    private static void oddsAre(SnowHut x, int claim, int p, long upper, long lower) {
        long ahead = x.digest();
        int asked = x.asked();
        Due.shares("33: odds(" + claim + ", 0, " + p + ")", x, x.odds(claim, 0, p), upper, lower);
        Due.is("33: aside", x.digest(), ahead);
        Due.is("33: asked() stays", x.asked(), asked);
    }

    private static void odds() {
        SnowHut x = Due.hutWithTwoUp("w00 g9900 g4900");
        Due.fill(x, 0, 0);
        oddsAre(x, 0, 0, 1, 1);
        oddsAre(x, 0, 3, 3, 4);
        oddsAre(x, 0, 5, 7, 12);
        oddsAre(x, 0, 12, 0, 1);
        oddsAre(x, 1, 7, 1, 1);
        oddsAre(x, 2, 7, 0, 1);
        Due.fill(x, 0);
        oddsAre(x, 0, 6, 0, 1);
        oddsAre(x, 1, 6, 1, 1);
        Due.fill(x, 0, 0, 0);
        oddsAre(x, 0, 6, 3, 4);
        SnowHut y = Due.hutWithTwoUp("w00 g9000 g3000");
        Due.fill(y, 0, 0, 0);
        oddsAre(y, 0, 4, 4, 9);
        SnowHut z = Due.hutWithTwoUp("w00 g9000 g0000");
        Due.fill(z, 0, 0, 0, 0, 0, 0);
        oddsAre(z, 0, 1, 161051, 248832);
        Due.fill(z, 0, 0, 0, 0, 0, 0, 0);
        oddsAre(z, 0, 1, 2737867, 2985984);
        oddsAre(z, 0, 12, 0, 1);
    }

    private static void oddsLeftOut() {
        SnowHut x = Due.hutWithTwoUp("w00 g9000 g4000");
        Due.fill(x, 0, 4, 1, 0, 7);
        oddsAre(x, 0, 3, 3, 4);
        SnowHut follows = Due.hutWithTwoUp("w00 f01 g9900 g4300");
        Due.fill(follows, 0, 0, 1);
        oddsAre(follows, 0, 6, 1, 2);
        oddsAre(follows, 1, 6, 1, 4);
        oddsAre(follows, 1, 4, 4, 9);
        Due.fill(follows, 0, 1, 0);
        oddsAre(follows, 1, 6, 0, 1);
        // Whether the second can say 1 back hangs on what was heard.
        SnowHut back = Due.hutWithTwoUp("w00 f12 g0940 g0400");
        Due.fill(back, 0, 1, 5, 2, 5, 1, 2);
        oddsAre(back, 1, 6, 3, 4);
        oddsAre(back, 2, 6, 0, 1);
        SnowHut both = Due.hutWithTwoUp("w00 f01 g9300 g4900");
        Due.fill(both, 0, 0, 4, 5);
        oddsAre(both, 0, 2, 5, 6);
        oddsAre(both, 1, 2, 5, 6);
        SnowHut mule = Due.hutWithTwoUp("w00 g9000 m4000");
        Due.fill(mule, 0, 0, 0, 0);
        oddsAre(mule, 0, 3, 0, 1);
        SnowHut silent = Due.hutWithTwoUp("w00 g4000 h2000");
        Due.fill(silent, 0, 4, 0);
        oddsAre(silent, 0, 6, 0, 1);
    }

    private static void oddsRefused() {
        SnowHut x = Due.hut("w00 g9900 g4400");
        Due.fill(x, 0, 0);
        Due.refuses("33: nobody is up", x, SnowHut.STATE, () -> x.odds(0, 0, 0));
        Due.refuses("33: STATE ahead of NOTHING", x, SnowHut.STATE, () -> x.odds(0, 1, 0));
        Due.refuses("33: BAD ahead of STATE", x, SnowHut.BAD, () -> x.odds(4, 0, 0));
        x.send(0, 1);
        x.odds(0, 0, 5);
        Due.refuses("33: claim below", x, SnowHut.BAD, () -> x.odds(-1, 0, 0));
        Due.refuses("33: claim above", x, SnowHut.BAD, () -> x.odds(4, 0, 0));
        Due.refuses("33: r below", x, SnowHut.BAD, () -> x.odds(0, -1, 0));
        Due.refuses("33: r above", x, SnowHut.BAD, () -> x.odds(0, 6, 0));
        Due.refuses("33: p below", x, SnowHut.BAD, () -> x.odds(0, 0, -1));
        Due.refuses("33: p above", x, SnowHut.BAD, () -> x.odds(0, 0, 13));
        Due.finds("33: missing", x, 1, () -> x.odds(0, 1, 0));
        Due.fill(x, 1, 0, 0, 0, 0, 0, 0, 9);
        Due.finds("33: SIZE ahead of UNLIKE", x, 5, () -> x.odds(0, 1, 0));
        Due.fill(x, 1, 0, 8);
        Due.finds("33: no saying above", x, 3, () -> x.odds(0, 1, 0));
        Due.fill(x, 1, -1, 0);
        Due.finds("33: no saying below", x, 3, () -> x.odds(0, 1, 0));
        Due.fill(x, 1, 0, 0, 0, 0, 0, -1);
        Due.finds("33: the last is none", x, 3, () -> x.odds(0, 1, 12));
    }

    private static void midIs(SnowHut x, int p, long upper, long lower) {
        long ahead = x.digest();
        int asked = x.asked();
        Due.shares("34: mid(0, " + p + ")", x, x.mid(0, p), upper, lower);
        Due.is("34: aside", x.digest(), ahead);
        Due.is("34: asked() stays", x.asked(), asked);
    }

    private static void mid() {
        SnowHut x = Due.hutWithTwoUp("w00 g9900 g4400");
        Due.fill(x, 0);
        midIs(x, 5, 0, 1);
        Due.fill(x, 0, 0, 1);
        midIs(x, 3, 3, 2);
        midIs(x, 0, 2, 1);
        midIs(x, 12, 0, 1);
        midIs(x, 11, 1, 6);
        Due.fill(x, 0, 0, 0, 1);
        midIs(x, 6, 5, 4);
        SnowHut follows = Due.hutWithTwoUp("w00 f01 g9909 g4309");
        Due.fill(follows, 0, 0, 1);
        midIs(follows, 6, 7, 4);
        SnowHut all = Due.hutWithTwoUp("w00 g9999 h3333 g9000");
        Due.fill(all, 0, 0, 1, 2, 3, 4, 5);
        midIs(all, 7, 4, 1);
        all.send(0, 2);
        midIs(all, 12, 1, 1);
        oddsAre(all, 1, 12, 0, 1);
        SnowHut long6 = Due.hutWithTwoUp("w00 g9000 g0000");
        Due.fill(long6, 0, 0, 0, 0, 0, 0, 0);
        midIs(long6, 1, 2737867, 2985984);
    }

    private static void midRefused() {
        SnowHut x = Due.hut("w00 g9900 g4400");
        Due.fill(x, 0, 0);
        Due.refuses("34: nobody is up", x, SnowHut.STATE, () -> x.mid(0, 0));
        Due.refuses("34: STATE ahead of NOTHING", x, SnowHut.STATE, () -> x.mid(1, 0));
        Due.refuses("34: BAD ahead of STATE", x, SnowHut.BAD, () -> x.mid(0, 13));
        x.send(0, 1);
        x.mid(0, 5);
        Due.refuses("34: r below", x, SnowHut.BAD, () -> x.mid(-1, 0));
        Due.refuses("34: r above", x, SnowHut.BAD, () -> x.mid(6, 0));
        Due.refuses("34: p below", x, SnowHut.BAD, () -> x.mid(0, -1));
        Due.refuses("34: p above", x, SnowHut.BAD, () -> x.mid(0, 13));
        Due.finds("34: missing", x, 1, () -> x.mid(1, 0));
        Due.fill(x, 1, 0, 0, 0, 0, 0, 0, 9);
        Due.finds("34: SIZE ahead of UNLIKE", x, 5, () -> x.mid(1, 0));
        Due.fill(x, 1, 8);
        Due.finds("34: no saying above", x, 3, () -> x.mid(1, 0));
        Due.fill(x, 1, -1);
        Due.finds("34: no saying below", x, 3, () -> x.mid(1, 0));
    }

    /** Seed 1 draws the sayings 1, 4, 0, 7, 6, 4, 2, 3, 0, 7. */
    private static void lots() {
        SnowHut x = Due.hutWithTwoUp("w40 g9999 g9999");
        int asked = x.asked();
        Due.is("35: ten sayings", x.lots(10, 1), 15);
        Due.is("35: asked() stays", x.asked(), asked);
        Due.weighs("35: weights", x, 0, 11, 9, 10, 11);
        Due.weighs("35: weights", x, 1, 11, 10, 10, 10);
        Due.is("35: deeds", x.count(2), 11);
        Due.is("35: sayings", x.count(3), 10);
        Due.is("35: wood", x.count(1), 30);
        Due.is("35: they can be undone", x.undo(4), 7);
        Due.weighs("35: after three", x, 0, 10, 9, 9, 9);
        Due.weighs("35: after three", x, 1, 10, 10, 9, 9);
        Due.is("35: wood", x.count(1), 37);
        Due.is("35: the greatest seed draws 6", x.lots(1, 2147483646), 15);
        Due.weighs("35: 6", x, 0, 10, 9, 10, 9);
        SnowHut y = Due.hutWithTwoUp("w40 g9900 g9999");
        y.lots(1, 1);
        Due.weighs("35: one", y, 1, 9, 10, 9, 9);
        SnowHut held = Due.hutWithTwoUp("w40 g9000 g4000");
        Due.is("35: what both hold then", held.lots(3, 1), 1);
    }

    private static void lotsOfWood() {
        SnowHut x = Due.hutWithTwoUp("w05 g9000 g4000");
        Due.is("35: nine, of which three are sayings", x.lots(9, 1), 1);
        Due.weighs("35: weights", x, 0, 10, 0, 0, 0);
        Due.weighs("35: weights", x, 1, 6, 0, 0, 0);
        Due.is("35: deeds", x.count(2), 10);
        Due.is("35: sayings", x.count(3), 3);
        Due.is("35: wood", x.count(1), 4);
        SnowHut y = Due.hutWithTwoUp("w01 g9999 g9999");
        y.lots(3, 1);
        Due.is("35: wood, brought once", y.count(1), 0);
        Due.is("35: sayings", y.count(3), 2);
        y.undo(3);
        Due.is("35: wood, brought", y.count(1), 1);
        Due.is("35: deeds", y.count(2), 3);
        SnowHut z = Due.hutWithTwoUp("w00 g9999 g9999");
        Due.is("35: no wood ever", z.lots(20, 77), 15);
        Due.is("35: brought as it is at first, a deed", z.count(2), 21);
        Due.is("35: no sayings", z.count(3), 0);
    }

    private static void lotsRefused() {
        SnowHut x = Due.hut("w40 g9999 g9999");
        Due.refuses("35: nobody is up", x, SnowHut.STATE, () -> x.lots(1, 1));
        Due.refuses("35: BAD ahead of STATE", x, SnowHut.BAD, () -> x.lots(0, 1));
        x.send(0, 1);
        Due.refuses("35: n below", x, SnowHut.BAD, () -> x.lots(0, 1));
        Due.refuses("35: n far below", x, SnowHut.BAD, () -> x.lots(-1, 1));
        Due.refuses("35: n above", x, SnowHut.BAD, () -> x.lots(21, 1));
        Due.refuses("35: seed below", x, SnowHut.BAD, () -> x.lots(1, 0));
        Due.refuses("35: seed far below", x, SnowHut.BAD, () -> x.lots(1, -1));
        Due.refuses("35: seed above", x, SnowHut.BAD, () -> x.lots(1, Integer.MAX_VALUE));
        x.lots(20, 5);
        Due.refuses("35: 41 deeds", x, SnowHut.FULL, () -> x.lots(20, 5));
        Due.refuses("35: BAD ahead of FULL", x, SnowHut.BAD, () -> x.lots(21, 5));
        Due.is("35: 40 deeds", x.lots(19, 5), 15);
        Due.is("35: 40 deeds", x.count(2), 40);
        Due.refuses("35: full", x, SnowHut.FULL, () -> x.lots(1, 5));
        SnowHut none = new SnowHut();
        Due.refuses("35: no guests", none, SnowHut.STATE, () -> none.lots(1, 1));
    }
}
