/** Promises 16 to 21: deeds. */
public final class DeedsTest {
    private static final String TWO_AND_A_MULE = "w03 f01 g6400 b5600 m0000";

    public static void main(String[] args) {
        send();
        sendFull();
        say();
        sayKeepsTwenty();
        sayRefused();
        wood();
        woodFull();
        undo();
        keepAndOn();
        keepRefused();
        Due.end("DeedsTest");
    }

    private static void send() {
        SnowHut x = Due.hut(TWO_AND_A_MULE);
        Due.is("16: both hold 0", x.send(0, 1), 1);
        Due.is("16: who is up", x.count(4), 1);
        Due.is("16: a deed", x.count(2), 1);
        Due.is("16: no saying", x.count(3), 0);
        Due.refuses("16: the same two", x, SnowHut.STATE, () -> x.send(0, 1));
        Due.is("16: the other order", x.send(1, 0), 1);
        Due.is("16: who is up", x.count(4), 10);
        Due.is("16: others", x.send(2, 1), 0);
        Due.is("16: who is up", x.count(4), 21);
        Due.tells("16: who was up is not", x, x.guest(0, 6), 0);
        Due.refuses("16: i below", x, SnowHut.BAD, () -> x.send(-1, 1));
        Due.refuses("16: i above", x, SnowHut.BAD, () -> x.send(3, 1));
        Due.refuses("16: j below", x, SnowHut.BAD, () -> x.send(0, -1));
        Due.refuses("16: j above", x, SnowHut.BAD, () -> x.send(0, 3));
        Due.refuses("16: alike", x, SnowHut.BAD, () -> x.send(1, 1));
        SnowHut none = new SnowHut();
        Due.refuses("16: no guests", none, SnowHut.BAD, () -> none.send(0, 1));
        SnowHut all = Due.hut("w00 g9999 b9990 a0999 m9999 c9999 h9999");
        Due.is("16: all held", all.send(5, 4), 15);
        Due.is("16: some held", all.send(1, 2), 6);
    }

    private static void sendFull() {
        SnowHut x = Due.hut(TWO_AND_A_MULE);
        for (int n = 0; n < 20; n++) {
            Due.is("16: to and", x.send(0, 1), 1);
            Due.is("16: fro", x.send(1, 0), 1);
        }
        Due.is("16: 40 deeds", x.count(2), 40);
        Due.refuses("16: full", x, SnowHut.FULL, () -> x.send(0, 1));
        Due.refuses("16: STATE ahead of FULL", x, SnowHut.STATE, () -> x.send(1, 0));
        Due.refuses("16: BAD ahead of FULL", x, SnowHut.BAD, () -> x.send(1, 1));
    }

    private static void say() {
        SnowHut x = Due.hutWithTwoUp(TWO_AND_A_MULE);
        Due.is("17: a bishop is not moved", x.say(0), 5);
        Due.is("17: it takes wood", x.count(1), 2);
        Due.is("17: it follows", x.say(5), 6);
        Due.is("17: and is said back", x.say(1), 8);
        Due.weighs("17: to guest 0", x, 0, 6, 6, 0, 0);
        Due.weighs("17: to guest 1", x, 1, 5, 8, 0, 0);
        Due.weighs("17: to nobody else", x, 2, 0, 0, 0, 0);
        Due.is("17: deeds", x.count(2), 4);
        Due.is("17: sayings", x.count(3), 3);
        Due.refuses("17: no wood", x, SnowHut.SPENT, () -> x.say(0));
        Due.refuses("17: STATE ahead of SPENT", x, SnowHut.STATE, () -> x.say(2));
        SnowHut y = Due.hut("w09 g0009 h0900 m5000 a5040");
        y.send(3, 2);
        Due.is("17: a mule holds it", y.say(0), 6);
        Due.is("17: an actress", y.say(4), 7);
        y.send(0, 2);
        Due.is("17: a mule does not", y.say(3), 0);
        y.send(0, 1);
        Due.is("17: a child", y.say(3), 2);
        Due.is("17: a child, held at 3 then", y.say(3), 4);
        Due.is("17: and said back", y.say(7), 10);
        Due.is("17: and another", y.say(5), 1);
    }

    private static void sayKeepsTwenty() {
        SnowHut x = Due.hutWithTwoUp("w40 g9000 a9000");
        int[] want = {11, 13, 15, 17, 19, 20, 20};
        for (int n = 0; n < want.length; n++) {
            Due.is("17: kept up to 20, saying " + n, x.say(0), want[n]);
        }
        SnowHut y = Due.hutWithTwoUp("w40 g9000 m2000");
        Due.is("17: kept from 0", y.say(0), 1);
        Due.is("17: kept from 0", y.say(0), 0);
        Due.is("17: kept from 0", y.say(0), 0);
    }

    private static void sayRefused() {
        SnowHut x = Due.hut("w40 g9000 g0900 g9999");
        Due.refuses("17: nobody is up", x, SnowHut.STATE, () -> x.say(0));
        Due.refuses("17: BAD ahead of STATE", x, SnowHut.BAD, () -> x.say(8));
        x.send(0, 1);
        Due.refuses("17: below", x, SnowHut.BAD, () -> x.say(-1));
        Due.refuses("17: above", x, SnowHut.BAD, () -> x.say(8));
        Due.refuses("17: the first does not hold 1", x, SnowHut.STATE, () -> x.say(1));
        Due.refuses("17: the second does not hold 0", x, SnowHut.STATE, () -> x.say(4));
        for (int n = 0; n < 39; n++) {
            Due.is("17: saying " + n, x.say(0), Math.min(20, n + 1));
        }
        Due.is("17: 40 deeds", x.count(2), 40);
        Due.refuses("17: full", x, SnowHut.FULL, () -> x.say(0));
        Due.refuses("17: STATE ahead of FULL", x, SnowHut.STATE, () -> x.say(2));
        SnowHut y = Due.hutWithTwoUp("w39 g9000 g0900");
        for (int n = 0; n < 39; n++) {
            y.say(0);
        }
        Due.refuses("17: SPENT ahead of FULL", y, SnowHut.SPENT, () -> y.say(0));
        SnowHut none = new SnowHut();
        Due.refuses("17: no guests", none, SnowHut.STATE, () -> none.say(0));
    }

    private static void wood() {
        SnowHut none = new SnowHut();
        Due.refuses("18: no guests", none, SnowHut.STATE, none::wood);
        SnowHut x = Due.hutWithTwoUp(TWO_AND_A_MULE);
        Due.refuses("18: as at first", x, SnowHut.STATE, x::wood);
        x.say(0);
        x.say(0);
        Due.is("18: there was 1", x.wood(), 1);
        Due.is("18: as told at first", x.count(1), 3);
        Due.is("18: a deed", x.count(2), 4);
        Due.is("18: no saying", x.count(3), 2);
        Due.refuses("18: as at first again", x, SnowHut.STATE, x::wood);
        x.say(0);
        x.say(0);
        x.say(0);
        Due.is("18: there was none", x.wood(), 0);
        Due.is("18: both are still up", x.count(4), 1);
        SnowHut y = Due.hut("w00g9999b9999");
        Due.refuses("18: never any", y, SnowHut.STATE, y::wood);
    }

    private static void woodFull() {
        SnowHut x = Due.hutWithTwoUp("w40 g9000 g0900");
        for (int n = 0; n < 39; n++) {
            x.say(0);
        }
        Due.refuses("18: full", x, SnowHut.FULL, x::wood);
        SnowHut y = Due.hutWithTwoUp("w01 g9000 g0900");
        for (int n = 0; n < 19; n++) {
            y.say(0);
            y.wood();
        }
        y.send(1, 0);
        Due.is("18: 40 deeds", y.count(2), 40);
        Due.refuses("18: STATE ahead of FULL", y, SnowHut.STATE, y::wood);
        y.undo(37);
        y.send(1, 0);
        Due.is("18: the 39th deed", y.say(4), 19);
        Due.is("18: the 40th", y.wood(), 0);
        Due.is("18: 40 deeds", y.count(2), 40);
    }

    private static void undo() {
        SnowHut none = new SnowHut();
        Due.is("19: no guests, none", none.undo(0), 0);
        Due.refuses("19: no guests", none, SnowHut.BAD, () -> none.undo(1));
        SnowHut x = Due.hutWithTwoUp(TWO_AND_A_MULE);
        long afterSend = x.digest();
        x.say(5);
        long afterSaying = x.digest();
        x.say(1);
        x.wood();
        long afterWood = x.digest();
        x.send(2, 0);
        Due.refuses("19: below", x, SnowHut.BAD, () -> x.undo(-1));
        Due.refuses("19: above", x, SnowHut.BAD, () -> x.undo(6));
        Due.is("19: none of five", x.undo(5), 0);
        Due.is("19: the last", x.undo(4), 1);
        Due.is("19: as ahead of it", x.digest(), afterWood);
        Due.is("19: who is up", x.count(4), 1);
        Due.is("19: two more", x.undo(2), 2);
        Due.is("19: as ahead of them", x.digest(), afterSaying);
        Due.is("19: wood", x.count(1), 2);
        Due.weighs("19: weights", x, 0, 6, 6, 0, 0);
        Due.is("19: one more", x.undo(1), 1);
        Due.is("19: as ahead of it", x.digest(), afterSend);
        Due.is("19: all", x.undo(0), 1);
        Due.is("19: nobody is up", x.count(4), 0);
        Due.is("19: no deeds", x.count(2), 0);
        Due.tells("19: the first is not up", x, x.guest(0, 6), 0);
        Due.tells("19: the second is not up", x, x.guest(1, 6), 0);
        Due.weighs("19: as at first", x, 0, 6, 4, 0, 0);
        Due.is("19: done anew", x.send(0, 1), 1);
        Due.is("19: as the first time", x.digest(), afterSend);
    }

    private static void keepAndOn() {
        SnowHut x = Due.hutWithTwoUp(TWO_AND_A_MULE);
        Due.is("20: keep(0), one deed", x.keep(0), 1);
        x.say(5);
        x.say(1);
        Due.is("20: keep(2), three deeds", x.keep(2), 3);
        Due.is("20: kept huts", x.count(10), 2);
        long three = x.digest();
        x.wood();
        x.send(2, 1);
        Due.is("21: on(2)", x.on(2), 3);
        Due.is("21: as it was kept", x.digest(), three);
        Due.is("21: wood", x.count(1), 1);
        Due.is("21: who is up", x.count(4), 1);
        Due.weighs("21: weights", x, 1, 5, 8, 0, 0);
        Due.is("21: on(0)", x.on(0), 1);
        Due.weighs("21: weights of the other", x, 1, 5, 6, 0, 0);
        Due.is("21: deeds", x.count(2), 1);
        Due.is("21: kept still", x.on(2), 3);
        Due.is("21: deeds of it can be undone", x.undo(2), 1);
        Due.weighs("21: undone", x, 1, 5, 6, 0, 0);
        Due.is("21: kept untouched by it", x.on(2), 3);
        x.undo(0);
        Due.is("20: anew, without deeds", x.keep(2), 0);
        Due.is("20: still two", x.count(10), 2);
        x.send(1, 2);
        Due.is("21: without deeds", x.on(2), 0);
        Due.is("21: nobody is up", x.count(4), 0);
        Due.is("20: the last place", x.keep(1), 0);
        Due.is("20: all three", x.count(10), 3);
        x.send(1, 2);
        x.wood();
        Due.is("21: whichever deeds there are now", x.on(0), 1);
        Due.is("21: who is up", x.count(4), 1);
    }

    private static void keepRefused() {
        SnowHut none = new SnowHut();
        Due.refuses("20: no guests", none, SnowHut.STATE, () -> none.keep(0));
        Due.refuses("20: BAD ahead of STATE", none, SnowHut.BAD, () -> none.keep(3));
        Due.finds("21: no guests", none, 1, () -> none.on(0));
        SnowHut x = Due.hut(TWO_AND_A_MULE);
        Due.refuses("20: below", x, SnowHut.BAD, () -> x.keep(-1));
        Due.refuses("20: above", x, SnowHut.BAD, () -> x.keep(3));
        Due.refuses("21: below", x, SnowHut.BAD, () -> x.on(-1));
        Due.refuses("21: above", x, SnowHut.BAD, () -> x.on(3));
        x.keep(1);
        Due.finds("21: missing", x, 1, () -> x.on(0));
        Due.finds("21: missing", x, 1, () -> x.on(2));
    }
}
