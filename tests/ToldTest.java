/** Promises 36 to 42: what is told. */
public final class ToldTest {
    private static final String FOUR = "w12 f01f12f01 g6040 b4600 c7470 h3021";

    public static void main(String[] args) {
        asked();
        askedStays();
        upperAndLower();
        count();
        countOfDeeds();
        countOfHeldByAll();
        findings();
        digestOfNew();
        digestOfMuch();
        Due.end("ToldTest");
    }

    private static void asked() {
        SnowHut x = new SnowHut();
        Due.is("36: at first", x.asked(), 0);
        Due.write(x, 0, FOUR);
        x.hut(0);
        Due.is("36: still none", x.asked(), 0);
        Due.fill(x, 0, 7, 5, 3);
        Due.tells("36: lay()", x, x.lay(0, 1, 6), 5);
        Due.tells("36: at()", x, x.at(0, 0), 7);
        Due.tells("36: mean()", x, x.mean(0), 5);
        Due.tells("36: guest()", x, x.guest(2, 3), 7);
        Due.answers("36: sets()", x, x.sets(), 8, 0);
        Due.answers("36: change()", x, x.change(2), 1, 4);
        Due.answers("36: match()", x, x.match(), 3, 0);
        x.send(0, 2);
        Due.answers("36: both()", x, x.both(), 1, 4);
        Due.is("36: ways()", x.ways(1, 1), 1);
        Due.is("36: ways(), asked()", x.asked(), 1);
        Due.fill(x, 0, 6, 6);
        Due.answers("36: talk()", x, x.talk(0), 2, 5);
        x.row(0, 0);
        Due.answers("36: test()", x, x.test(0, 0), 0, 2);
        Due.answers("36: sets() again", x, x.sets(), 8, 0);
    }

    private static void askedStays() {
        SnowHut x = Due.hut(FOUR);
        Due.fill(x, 0, 0, 5, 11);
        Due.fill(x, 1, 2);
        x.send(1, 2);
        Due.tells("36: what stays", x, x.at(0, 1), 5);
        x.row(2, 3);
        x.copy(0, 0, 2, 0, 3);
        x.tear(2);
        x.text(1, 5);
        x.put(1, 0, 103);
        x.fault(1);
        x.mark(1, 1);
        x.follows(3);
        x.moved(0, 0);
        x.send(2, 0);
        x.say(2);
        x.wood();
        x.undo(2);
        x.keep(0);
        x.on(0);
        x.can();
        x.soonest(0, 3);
        x.kinds(0, 0);
        x.duel(3);
        x.odds(2, 1, 5);
        x.mid(1, 5);
        x.lots(2, 9);
        x.upper();
        x.lower();
        x.count(3);
        x.finding();
        x.findings(1);
        x.digest();
        Due.is("36: by these calls nothing is told", x.asked(), 5);
        x.hut(0);
        Due.is("36: nor by a hut anew", x.asked(), 5);
        x.both();
        x.can();
        x.guest(9, 9);
        x.at(5, 0);
        x.at(0, 3);
        x.mean(9);
        x.lay(0, -1, 3);
        x.ways(0, 9);
        Due.is("36: nor by what is refused", x.asked(), 5);
    }

    private static void upperAndLower() {
        SnowHut x = Due.hutWithTwoUp("w09 g9900 g4400");
        Due.is("37: at first", x.upper(), 0);
        Due.is("38: at first", x.lower(), 1);
        Due.fill(x, 0, 0, 1);
        x.odds(0, 0, 4);
        Due.is("37: odds()", x.upper(), 2);
        Due.is("38: odds()", x.lower(), 3);
        x.mid(0, 3);
        Due.is("37: mid()", x.upper(), 3);
        Due.is("38: mid()", x.lower(), 2);
        x.ways(0, 2);
        Due.is("37: ways()", x.upper(), 6);
        Due.is("38: ways()", x.lower(), 1);
        x.odds(1, 0, 3);
        x.lay(0, 0, 3);
        x.at(0, 0);
        x.guest(0, 1);
        x.sets();
        x.both();
        x.say(0);
        x.soonest(0, 1);
        x.match();
        x.duel(2);
        x.lots(3, 4);
        x.hut(0);
        x.odds(0, 0, 0);
        x.mid(0, 99);
        x.ways(0, 2);
        Due.is("37: it stays", x.upper(), 3);
        Due.is("38: it stays", x.lower(), 4);
    }

    private static void countsAre(String what, SnowHut x, int... want) {
        for (int i = 0; i < want.length; i++) {
            Due.is("39: " + what + ", count(" + i + ")", x.count(i), want[i]);
        }
        Due.refuses("39: below", x, SnowHut.BAD, () -> x.count(-1));
        Due.refuses("39: above", x, SnowHut.BAD, () -> x.count(11));
    }

    private static void count() {
        SnowHut x = new SnowHut();
        countsAre("new", x, 0, 0, 0, 0, 0, 0, 0, 0, 0, 0, 0);
        Due.write(x, 3, FOUR);
        Due.write(x, 1, "");
        x.row(2, 0);
        x.row(4, 2);
        x.row(5, 1);
        countsAre("rows and texts", x, 0, 0, 0, 0, 0, 0, 0, 0, 3, 2, 0);
        x.hut(3);
        countsAre("a hut", x, 4, 12, 0, 0, 0, 2, 0, 2, 3, 2, 0);
        x.keep(1);
        x.keep(1);
        x.keep(2);
        x.tear(4);
        countsAre("kept, torn", x, 4, 12, 0, 0, 0, 2, 0, 2, 2, 2, 2);
        x.send(0, 1);
        countsAre("up", x, 4, 12, 1, 0, 1, 2, 0, 2, 2, 2, 2);
        x.hut(3);
        countsAre("anew", x, 4, 12, 0, 0, 0, 2, 0, 2, 2, 2, 0);
    }

    private static void countOfDeeds() {
        SnowHut x = Due.hut("w03 f01f10f12f21f23f32 b9900 c9090 c0990 b4444 g9999");
        x.send(4, 2);
        x.say(1);
        x.say(4 + 2);
        x.wood();
        x.send(2, 4);
        x.say(4);
        countsAre("deeds", x, 5, 2, 6, 3, 24, 6, 0, 4, 0, 1, 0);
        x.undo(3);
        countsAre("undone", x, 5, 1, 3, 2, 42, 6, 0, 4, 0, 1, 0);
        x.send(2, 0);
        countsAre("the first is 2, the second 0", x, 5, 1, 4, 2, 20, 6, 0, 4, 0, 1, 0);
    }

    private static void countOfHeldByAll() {
        SnowHut x = Due.hut("w09 c7799 g5595 h3393 m9599");
        Due.is("39: held by all", x.count(6), 15);
        SnowHut y = Due.hut("w09 c6799 g5495 h3323 m9594");
        Due.is("39: held by all but", y.count(6), 0);
        SnowHut z = Due.hut("w09 g9990 g4999 h9990");
        Due.is("39: held by all", z.count(6), 6);
        z.send(0, 1);
        z.say(0);
        Due.is("39: held by all then", z.count(6), 7);
    }

    private static void findings() {
        SnowHut x = new SnowHut();
        Due.is("40: at first", x.finding(), 0);
        for (int f = 1; f <= 5; f++) {
            Due.is("41: at first", x.findings(f), 0);
        }
        x.row(0, -1);
        Due.is("40: SIZE", x.finding(), 5);
        x.row(0, 0);
        x.mean(0);
        Due.is("40: NOUGHT", x.finding(), 4);
        x.at(0, 0);
        Due.is("40: BEYOND", x.finding(), 2);
        x.at(1, 0);
        x.on(0);
        x.hut(2);
        Due.is("40: NOTHING", x.finding(), 1);
        Due.write(x, 0, FOUR);
        x.hut(0);
        x.mark(0, 1);
        Due.is("40: UNLIKE", x.finding(), 3);
        x.at(9, 0);
        x.send(0, 0);
        x.both();
        Due.is("40: BAD, STATE are none", x.finding(), 3);
        int[] want = {0, 3, 1, 1, 1, 1};
        for (int f = 1; f <= 5; f++) {
            Due.is("41: findings(" + f + ")", x.findings(f), want[f]);
        }
        Due.refuses("41: below", x, SnowHut.BAD, () -> x.findings(0));
        Due.refuses("41: far below", x, SnowHut.BAD, () -> x.findings(-1));
        Due.refuses("41: above", x, SnowHut.BAD, () -> x.findings(6));
    }

    private static long mixed(long... values) {
        long h = 17;
        for (long v : values) {
            h = 31 * h + v;
        }
        return h;
    }

    private static void digestOfNew() {
        SnowHut x = new SnowHut();
        Due.is("42: new", x.digest(), mixed(0, 0, 0, 0, 0, 0, 0, 0, 0, 0, 0,
            1, 2, 4, 8, -1, -1, -1, -1, -1, -1, -1, -1, -1, -1, -1, -1, -1));
        Due.fill(x, 1, 5, -6);
        x.row(5, 0);
        x.text(2, 2);
        x.put(2, 1, -7);
        Due.is("42: rows and texts", x.digest(), mixed(0, 0, 0, 0, 0, 0, 0, 0, 2, 1, 0,
            1, 2, 4, 8, -1, -1, -1, -1, 2, 5, -6, -1, -1, -1, 0, -1, -1, 2, 32, -7, -1));
        x.lay(1, 0, 9);
        long digest = x.digest();
        Due.is("42: asked() stays", x.asked(), 5);
        Due.is("42: again", x.digest(), digest);
    }

    private static void digestOfMuch() {
        SnowHut x = Due.hut("w03f01f12 c7699 h0349");
        x.text(0, 1);
        x.keep(2);
        x.send(1, 0);
        x.keep(0);
        x.say(3);
        x.say(1);
        Due.is("42: a hut", x.digest(), mixed(2, 1, 3, 2, 10, 2, 14, 1, 0, 1, 2,
            7, 6, 4, 8,
            4, 7, 8, 9, 9, 15, 2, 5, 0, 3, 4, 9, 14, 1,
            1, -1, 0, -1, -1, -1, -1, -1, -1, 1, 32, -1, -1, -1));
    }
}
