/** Promises 22 to 27: talks. */
public final class TalksTest {
    /** The one holds 0, the other one 1; each follows from the other. */
    private static final String TWO = "w00 f01f10 g6040 g4600";

    public static void main(String[] args) {
        both();
        can();
        talk();
        talkRefused();
        soonest();
        soonestNone();
        soonestRefused();
        ways();
        waysRefused();
        match();
        matchNone();
        Due.end("TalksTest");
    }

    private static void both() {
        SnowHut x = Due.hut("w09 g6600 b6060 g0009");
        Due.refuses("22: nobody is up", x, SnowHut.STATE, x::both);
        x.send(0, 1);
        Due.answers("22: both", x, x.both(), 1, 6);
        x.send(1, 2);
        Due.answers("22: none", x, x.both(), 0, 13);
        x.send(2, 0);
        x.say(5);
        Due.answers("22: not yet", x, x.both(), 0, 11);
        SnowHut none = new SnowHut();
        Due.refuses("22: no guests", none, SnowHut.STATE, none::both);
        SnowHut all = Due.hutWithTwoUp("w00 g9999 h3333");
        Due.answers("22: all", all, all.both(), 15, 0);
    }

    private static void can() {
        SnowHut x = Due.hut("w00 g6600 b6060 c6789");
        Due.refuses("23: nobody is up", x, SnowHut.STATE, x::can);
        x.send(0, 1);
        Due.is("23: can() without wood", x.can(), 83);
        x.send(1, 2);
        Due.is("23: can()", x.can(), 229);
        SnowHut y = Due.hutWithTwoUp("w00 g0000 g4444");
        Due.is("23: nothing can be said", y.can(), 0);
        SnowHut z = Due.hutWithTwoUp("w01 g9000 g4000");
        z.say(0);
        Due.is("23: as it is now", z.can(), 17);
    }

    private static void talk() {
        SnowHut x = Due.hutWithTwoUp(TWO);
        long ahead = x.digest();
        Due.fill(x, 0);
        Due.answers("24: of no sayings", x, x.talk(0), 0, 0);
        Due.fill(x, 0, 0);
        Due.answers("24: of one", x, x.talk(0), 1, 1);
        Due.fill(x, 0, 5, 5, 4, 5);
        Due.answers("24: up to the third", x, x.talk(0), 2, 0);
        Due.fill(x, 0, 5, 5, 5, 1, 5);
        Due.answers("24: what could not be said at first", x, x.talk(0), 5, 2);
        Due.fill(x, 0, 0, 4, 5, 5, 5, 2);
        Due.answers("24: but the last", x, x.talk(0), 5, 3);
        Due.fill(x, 0, 1, 0);
        Due.answers("24: not the first", x, x.talk(0), 0, 0);
        int[] forty = new int[40];
        Due.fill(x, 0, forty);
        Due.answers("24: of forty, without wood", x, x.talk(0), 40, 1);
        x.tear(0);
        Due.is("24: aside", x.digest(), ahead);
    }

    private static void talkRefused() {
        SnowHut x = Due.hut(TWO);
        Due.fill(x, 0, 0);
        Due.refuses("24: nobody is up", x, SnowHut.STATE, () -> x.talk(0));
        Due.refuses("24: STATE ahead of NOTHING", x, SnowHut.STATE, () -> x.talk(1));
        Due.refuses("24: BAD ahead of STATE", x, SnowHut.BAD, () -> x.talk(6));
        x.send(0, 1);
        Due.refuses("24: r below", x, SnowHut.BAD, () -> x.talk(-1));
        Due.refuses("24: r above", x, SnowHut.BAD, () -> x.talk(6));
        Due.finds("24: missing", x, 1, () -> x.talk(1));
        Due.fill(x, 0, 0, 8);
        Due.finds("24: no saying above", x, 3, () -> x.talk(0));
        Due.fill(x, 0, -1);
        Due.finds("24: no saying below", x, 3, () -> x.talk(0));
        Due.fill(x, 0, 1, 1, 9);
        Due.finds("24: no saying behind one that can't be", x, 3, () -> x.talk(0));
    }

    private static void soonest() {
        SnowHut x = Due.hutWithTwoUp(TWO);
        long ahead = x.digest();
        for (int claims = 0; claims <= 3; claims++) {
            Due.is("25: soonest(" + claims + ", 2)", x.soonest(claims, 2), 4);
            Due.rowIs("25: the first talk", x, 2, 0, 5, 5, 5);
        }
        x.tear(2);
        Due.is("25: aside", x.digest(), ahead);
        SnowHut y = Due.hut("w00 g9000 g8000 g8900 a0900");
        y.send(0, 1);
        Due.fill(y, 5, 7, 7, 7);
        Due.is("25: at once", y.soonest(0, 5), 0);
        Due.rowIs("25: a row without places", y, 5);
        Due.is("25: at once, with a claim", y.soonest(1, 5), 0);
        y.send(0, 2);
        Due.is("25: five", y.soonest(2, 0), 5);
        Due.rowIs("25: five", y, 0, 5, 5, 5, 5, 5);
        y.send(2, 3);
        Due.is("25: three to an actress", y.soonest(0, 0), 3);
        Due.rowIs("25: three to an actress", y, 0, 0, 0, 0);
        SnowHut z = Due.hutWithTwoUp("w00 g9900 g4409");
        Due.is("25: not without the third", z.soonest(0, 1), SnowHut.NONE);
        SnowHut both = Due.hutWithTwoUp("w00 g4900 g9400");
        Due.is("25: one each", both.soonest(0, 1), 2);
        Due.rowIs("25: the first saying first", both, 1, 1, 4);
        SnowHut last = Due.hutWithTwoUp("w00 g0004 g0009");
        Due.is("25: the second says 3", last.soonest(0, 1), 1);
        Due.rowIs("25: the second says 3", last, 1, 7);
        Due.is("25: and both hold it", last.soonest(8, 1), 1);
        Due.rowIs("25: and both hold it", last, 1, 7);
    }

    private static void soonestNone() {
        SnowHut x = Due.hutWithTwoUp(TWO);
        Due.fill(x, 2, 7, 8);
        Due.refuses("25: nobody says 2", x, SnowHut.NONE, () -> x.soonest(4, 2));
        Due.refuses("25: not all", x, SnowHut.NONE, () -> x.soonest(15, 2));
        Due.rowIs("25: the row stays", x, 2, 7, 8);
        SnowHut y = Due.hutWithTwoUp("w00 g9900 b9400");
        Due.refuses("25: a bishop is not moved", y, SnowHut.NONE, () -> y.soonest(0, 0));
        SnowHut silent = Due.hutWithTwoUp("w00 g4000 g4000");
        Due.refuses("25: neither can say it", silent, SnowHut.NONE, () -> silent.soonest(1, 0));
        SnowHut z = Due.hutWithTwoUp("w00 g9900 g9000 g8000");
        Due.is("25: five", z.soonest(0, 0), 5);
        SnowHut six = Due.hutWithTwoUp("w00 g9990 g9040");
        Due.refuses("25: six are too many", six, SnowHut.NONE, () -> six.soonest(0, 0));
    }

    private static void soonestRefused() {
        SnowHut x = Due.hut(TWO);
        Due.refuses("25: nobody is up", x, SnowHut.STATE, () -> x.soonest(0, 0));
        Due.refuses("25: BAD ahead of STATE", x, SnowHut.BAD, () -> x.soonest(16, 0));
        x.send(0, 1);
        Due.refuses("25: claims below", x, SnowHut.BAD, () -> x.soonest(-1, 0));
        Due.refuses("25: claims above", x, SnowHut.BAD, () -> x.soonest(16, 0));
        Due.refuses("25: r below", x, SnowHut.BAD, () -> x.soonest(0, -1));
        Due.refuses("25: r above", x, SnowHut.BAD, () -> x.soonest(0, 6));
    }

    private static void waysAre(SnowHut x, int claims, int n, long ways, int always) {
        String what = "26: ways(" + claims + ", " + n + ")";
        int got = x.ways(claims, n);
        Due.is(what + ", asked()", x.asked(), always);
        Due.shares(what, x, got, ways, 1);
    }

    private static void ways() {
        SnowHut x = Due.hutWithTwoUp(TWO);
        long ahead = x.digest();
        waysAre(x, 0, 0, 1, 0);
        waysAre(x, 1, 0, 0, 0);
        waysAre(x, 0, 1, 2, 0);
        waysAre(x, 1, 1, 1, 1);
        waysAre(x, 0, 2, 5, 0);
        waysAre(x, 1, 2, 4, 1);
        waysAre(x, 2, 4, 6, 2);
        waysAre(x, 4, 5, 0, 0);
        Due.is("26: aside", x.digest(), ahead);
        SnowHut y = Due.hutWithTwoUp("w00 g9999 g9999");
        waysAre(y, 15, 5, 32768, 15);
        waysAre(y, 5, 3, 512, 15);
        SnowHut z = Due.hutWithTwoUp("w00 g0000 g0000");
        waysAre(z, 0, 0, 1, 0);
        waysAre(z, 0, 3, 0, 0);
        Due.fill(y, 0, 4);
        y.odds(0, 0, 3);
        SnowHut lower = Due.hutWithTwoUp("w00 g4000 g9000");
        Due.fill(lower, 0, 4);
        Due.shares("33: three of four", lower, lower.odds(0, 0, 3), 3, 4);
        waysAre(lower, 1, 1, 1, 1);
        // There is no talk of one saying but this, so none behind which they hold nothing both.
        waysAre(lower, 0, 1, 1, 1);
        SnowHut last = Due.hutWithTwoUp("w00 g0004 g0009");
        waysAre(last, 0, 0, 1, 0);
        waysAre(last, 0, 1, 1, 8);
        waysAre(last, 8, 1, 1, 8);
        waysAre(last, 8, 2, 2, 8);
    }

    private static void waysRefused() {
        SnowHut x = Due.hut(TWO);
        Due.refuses("26: nobody is up", x, SnowHut.STATE, () -> x.ways(0, 0));
        Due.refuses("26: BAD ahead of STATE", x, SnowHut.BAD, () -> x.ways(0, 6));
        x.send(0, 1);
        x.ways(1, 2);
        Due.refuses("26: claims below", x, SnowHut.BAD, () -> x.ways(-1, 0));
        Due.refuses("26: claims above", x, SnowHut.BAD, () -> x.ways(16, 0));
        Due.refuses("26: n below", x, SnowHut.BAD, () -> x.ways(0, -1));
        Due.refuses("26: n above", x, SnowHut.BAD, () -> x.ways(0, 6));
    }

    private static void match() {
        SnowHut x = Due.hut("w00 g9000 g0900 g9000 g9900");
        Due.answers("27: at once", x, x.match(), 2, 0);
        SnowHut y = Due.hut("w00 g9200 g9900 g9900");
        Due.answers("27: a later pair at once", y, y.match(), 12, 0);
        SnowHut z = Due.hut("w00 g9200 g9900");
        Due.answers("27: by three", z, z.match(), 1, 3);
        SnowHut first = Due.hut("w09 g0900 m0000 g9200 g9900 g9200 a9300");
        Due.answers("27: the first of like few", first, first.match(), 24, 0);
        first.send(4, 3);
        first.say(5);
        first.say(5);
        Due.answers("27: as they are now, 4 holds the same still", first, first.match(), 24, 0);
        first.say(5);
        Due.answers("27: as they are now, 4 holds 1 too", first, first.match(), 25, 0);
        Due.is("27: who is up stays", first.count(4), 43);
        SnowHut later = Due.hut("w00 g0009 g9700 a9400");
        Due.answers("27: by one, without wood", later, later.match(), 12, 1);
        SnowHut fewer = Due.hut("w00 g9200 g9900 g9300");
        Due.answers("27: the same claims aside of weights", fewer, fewer.match(), 2, 0);
        SnowHut other = Due.hut("w00 b9000 b0900 b0909 b0900");
        Due.answers("27: by another claim", other, other.match(), 13, 0);
        SnowHut nothing = Due.hut("w00 b9000 b0000 b0004");
        Due.answers("27: by nothing that they hold", nothing, nothing.match(), 12, 0);
        SnowHut less = Due.hut("w00 g9200 g9930 g9960 m5555");
        Due.answers("27: a later pair by fewer", less, less.match(), 12, 2);
    }

    private static void matchNone() {
        SnowHut none = new SnowHut();
        Due.refuses("27: no guests", none, SnowHut.STATE, none::match);
        SnowHut x = Due.hut("w00 g9100 g9900");
        x.sets();
        Due.refuses("27: by four", x, SnowHut.NONE, x::match);
        SnowHut y = Due.hut("w00 g9000 g0900 g0090 g0009 g9900 g0099");
        Due.refuses("27: no two", y, SnowHut.NONE, y::match);
    }
}
