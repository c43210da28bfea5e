/** Promises 8 to 15: texts, and huts read from them. */
public final class TextsTest {
    private static final String ALL_KINDS = "w12 f01f12 g6040 b4600 a0352 m5514 c7470 h3021";

    public static void main(String[] args) {
        text();
        put();
        faultless();
        faultInWood();
        faultInReasons();
        faultInGuests();
        faultRefused();
        hut();
        hutAnew();
        hutRefused();
        guest();
        guestLater();
        mark();
        markRefused();
        follows();
        moved();
        movedByKind();
        Due.end("TextsTest");
    }

    private static void text() {
        SnowHut x = new SnowHut();
        Due.is("8: text(0, 2)", x.text(0, 2), 2);
        Due.is("8: of blanks", x.put(0, 0, 1), 1032);
        Due.is("8: of blanks", x.put(0, 1, 1), 1032);
        Due.is("8: anew", x.text(0, 1), 1);
        Due.is("8: anew, of blanks", x.put(0, 0, 1), 1032);
        Due.finds("8: anew, shorter", x, 2, () -> x.put(0, 1, 1));
        Due.is("8: the last, the longest", x.text(3, 60), 60);
        Due.is("8: its last place", x.put(3, 59, 1), 1032);
        Due.is("8: without places", x.text(1, 0), 0);
        Due.is("8: texts there", x.count(9), 3);
        Due.refuses("8: t below", x, SnowHut.BAD, () -> x.text(-1, 1));
        Due.refuses("8: t above", x, SnowHut.BAD, () -> x.text(4, 1));
        Due.refuses("8: n above", x, SnowHut.BAD, () -> x.text(0, 61));
        Due.finds("8: n below", x, 5, () -> x.text(0, -1));
        Due.refuses("8: BAD ahead of SIZE", x, SnowHut.BAD, () -> x.text(4, -1));
    }

    private static void put() {
        SnowHut x = new SnowHut();
        x.text(2, 2);
        Due.is("9: a byte", x.put(2, 1, 127), 1032);
        Due.is("9: cut below", x.put(2, 1, 128), 1127);
        Due.is("9: cut to -128", x.put(2, 1, 256 + 103), 872);
        Due.is("9: cut to 103", x.put(2, 1, -129), 1103);
        Due.is("9: cut to 127", x.put(2, 1, -1), 1127);
        Due.is("9: -1", x.put(2, 1, 0), 999);
        Due.is("9: the other place stays", x.put(2, 0, 0), 1032);
        Due.refuses("9: t below", x, SnowHut.BAD, () -> x.put(-1, 0, 1));
        Due.refuses("9: t above", x, SnowHut.BAD, () -> x.put(4, 0, 1));
        Due.finds("9: missing", x, 1, () -> x.put(0, 0, 1));
        Due.finds("9: missing ahead of beyond", x, 1, () -> x.put(0, -1, 1));
        Due.finds("9: below", x, 2, () -> x.put(2, -1, 1));
        Due.finds("9: above", x, 2, () -> x.put(2, 2, 1));
    }

    private static void faultIs(String signs, int want) {
        SnowHut x = new SnowHut();
        Due.write(x, 1, signs);
        Due.is("10: fault of \"" + signs + "\"", x.fault(1), want);
        Due.is("11: hut by \"" + signs + "\" is refused or not", x.hut(1) == SnowHut.STATE ? 1 : 0, want == -9 ? 0 : 1);
        Due.is("10: no FINDING by \"" + signs + "\"", x.finding(), 0);
    }

    private static void faultless() {
        faultIs("w40g1234b0909", -9);
        faultIs("  w00   g1234 b0909   ", -9);
        faultIs("w39f01g0000f10m9999f01", -9);
        faultIs("w00g0000b0000a0000m0000c0000h0000", -9);
        faultIs("w00f01f02f03f10f12f13f20f21f23f30f31f32g0000g0000", -9);
        faultIs("w00 g0000 g0000                                             ", -9);
    }

    private static void faultInWood() {
        faultIs("", 0);
        faultIs("   ", 3);
        faultIs("x", 0);
        faultIs("  x", 2);
        faultIs("g1234b1234w40", 0);
        faultIs("f01w40", 0);
        faultIs("W40g1234b1234", 0);
        faultIs("w", 1);
        faultIs("w4", 2);
        faultIs("  w4", 4);
        faultIs("w 40", 1);
        faultIs("w4 0", 2);
        faultIs("wx0", 1);
        faultIs("w4x", 2);
        faultIs("w41g1234b1234", 1);
        faultIs(" w50g1234b1234", 2);
        faultIs("w99", 1);
        faultIs("w/0", 1);
        faultIs("w:0", 1);
        faultIs("w40", 3);
        faultIs("w40  ", 5);
        faultIs("w40w40g1234b1234", 3);
        faultIs("w400", 3);
    }

    private static void faultInReasons() {
        faultIs("w40f", 4);
        faultIs("w40f ", 4);
        faultIs("w40f4", 4);
        faultIs("w40f1", 5);
        faultIs("w40f1 2", 5);
        faultIs("w40f14g1234b1234", 5);
        faultIs("w40f11g1234b1234", 5);
        faultIs("w40f00g1234b1234", 5);
        faultIs("w40f0xg1234b1234", 5);
        faultIs("w40f012", 6);
        faultIs("w40f01", 6);
    }

    private static void faultInGuests() {
        faultIs("w40g", 4);
        faultIs("w40g123", 7);
        faultIs("w40g1234", 8);
        faultIs("w40g1234 ", 9);
        faultIs("w40g12 34", 6);
        faultIs("w40g123:", 7);
        faultIs("w40g123/", 7);
        faultIs("w40g12345", 8);
        faultIs("w40g1234bx", 9);
        faultIs("w40g1234i1234", 8);
        faultIs("w40g1234d1234", 8);
        faultIs("w40g1234b1234x", 13);
        faultIs("w40g1234b1234 G1234", 14);
        faultIs("w40g1234b1234" + (char) 247, 13);
        faultIs("w40" + (char) 247, 3);
        faultIs("w00g0000b0000a0000m0000c0000h0000g0000", 33);
        faultIs("w00g0000b0000a0000m0000c0000h0000 f01 b", 38);
        faultIs("w00g0000b0000a0000m0000c0000h0000 x", 34);
    }

    private static void faultRefused() {
        SnowHut x = new SnowHut();
        Due.refuses("10: t below", x, SnowHut.BAD, () -> x.fault(-1));
        Due.refuses("10: t above", x, SnowHut.BAD, () -> x.fault(4));
        Due.finds("10: missing", x, 1, () -> x.fault(3));
        Due.write(x, 3, "w40g1234b1234");
        Due.refuses("10: none changes nothing", x, SnowHut.NONE, () -> x.fault(3));
        Due.is("10: and makes no hut", x.count(0), 0);
    }

    private static void hut() {
        SnowHut x = new SnowHut();
        Due.write(x, 3, ALL_KINDS);
        Due.is("11: six guests", x.hut(3), 6);
        Due.is("11: wood", x.count(1), 12);
        Due.is("11: no deeds", x.count(2), 0);
        Due.is("11: what follows", x.count(5), 2);
        int[][] weights = {{6, 0, 4, 0}, {4, 6, 0, 0}, {0, 3, 5, 2}, {5, 5, 1, 4}, {7, 4, 7, 0}, {3, 0, 2, 1}};
        for (int i = 0; i < 6; i++) {
            Due.tells("11: kind of guest " + i, x, x.guest(i, 0), i);
            Due.weighs("11: weights", x, i, weights[i][0], weights[i][1], weights[i][2], weights[i][3]);
        }
        x.put(3, 0, 0);
        x.text(3, 0);
        Due.is("11: the hut stays as its text goes", x.count(0), 6);
        Due.write(x, 0, "w00m9999h0000f13f13f31");
        Due.is("11: two guests", x.hut(0), 2);
        Due.is("11: told again is nothing more", x.count(5), 2);
        Due.is("11: no wood", x.count(1), 0);
        Due.tells("11: kinds go with the guests", x, x.guest(0, 0), 3);
        Due.is("11: one way", x.follows(2), 10);
        Due.is("11: the other way", x.follows(8), 10);
    }

    private static void hutAnew() {
        SnowHut x = Due.hutWithTwoUp(ALL_KINDS);
        x.say(0);
        x.keep(0);
        x.keep(2);
        Due.write(x, 1, "w07g9999b1111");
        Due.is("11: anew", x.hut(1), 2);
        Due.is("11: nobody is up", x.count(4), 0);
        Due.is("11: nobody is up, says both()", x.both(), SnowHut.STATE);
        Due.is("11: no deeds", x.count(2), 0);
        Due.is("11: no sayings", x.count(3), 0);
        Due.is("11: wood anew", x.count(1), 7);
        Due.is("11: nothing follows", x.count(5), 0);
        Due.is("11: kept huts go", x.count(10), 0);
        Due.finds("11: kept huts go", x, 1, () -> x.on(0));
        Due.is("11: the first text again", x.hut(0), 6);
        Due.weighs("11: as at first", x, 1, 4, 6, 0, 0);
    }

    private static void hutRefused() {
        SnowHut x = Due.hutWithTwoUp(ALL_KINDS);
        x.say(0);
        x.keep(1);
        Due.write(x, 1, "w10g9999b11");
        Due.refuses("11: a fault", x, SnowHut.STATE, () -> x.hut(1));
        Due.refuses("11: t below", x, SnowHut.BAD, () -> x.hut(-1));
        Due.refuses("11: t above", x, SnowHut.BAD, () -> x.hut(4));
        Due.finds("11: missing", x, 1, () -> x.hut(2));
        Due.weighs("11: the hut stays", x, 0, 6, 0, 4, 0);
        Due.is("11: its deeds stay", x.undo(1), 1);
    }

    private static void guest() {
        SnowHut x = Due.hut(ALL_KINDS);
        int[] held = {1, 2, 4, 3, 5, 1};
        for (int i = 0; i < 6; i++) {
            Due.tells("12: held by guest " + i, x, x.guest(i, 5), held[i]);
            Due.tells("12: guest " + i + " is not up", x, x.guest(i, 6), 0);
        }
        x.send(4, 2);
        Due.tells("12: the first", x, x.guest(4, 6), 1);
        Due.tells("12: the second", x, x.guest(2, 6), 2);
        Due.tells("12: another", x, x.guest(0, 6), 0);
        Due.refuses("12: i below", x, SnowHut.BAD, () -> x.guest(-1, 0));
        Due.refuses("12: i above", x, SnowHut.BAD, () -> x.guest(6, 0));
        Due.refuses("12: what below", x, SnowHut.BAD, () -> x.guest(0, -1));
        Due.refuses("12: what above", x, SnowHut.BAD, () -> x.guest(0, 7));
        SnowHut two = Due.hut("w00g0000g0000");
        Due.refuses("12: no third guest", two, SnowHut.BAD, () -> two.guest(2, 0));
        SnowHut none = new SnowHut();
        Due.refuses("12: no guests", none, SnowHut.BAD, () -> none.guest(0, 0));
        SnowHut edges = Due.hut("w00 g4567 b4567 a4567 m4567 c4567 h2345");
        int[] at = {14, 14, 14, 14, 8, 14};
        for (int i = 0; i < 6; i++) {
            Due.tells("12: held at the edge by guest " + i, edges, edges.guest(i, 5), at[i]);
        }
    }

    private static void guestLater() {
        SnowHut x = Due.hutWithTwoUp("w09 g9000 g4000");
        x.say(0);
        Due.tells("12: a weight that became more", x, x.guest(1, 1), 5);
        Due.tells("12: and is held", x, x.guest(1, 5), 1);
        x.undo(1);
        Due.tells("12: undone", x, x.guest(1, 1), 4);
        Due.tells("12: and not held", x, x.guest(1, 5), 0);
    }

    private static void mark() {
        SnowHut x = Due.hut(ALL_KINDS);
        Due.is("13: a bishop is not moved by three", x.mark(1, 1), 3);
        Due.is("13: a canon as a bishop", x.mark(4, 1), 3);
        Due.is("13: an actress is moved by 8", x.mark(2, 2), 8);
        Due.is("13: a child as an actress", x.mark(5, 2), 9);
        Due.is("13: a mule does not hold two", x.mark(3, 3), 2);
        Due.is("13: a canon would hold none more", x.mark(4, 4), 0);
        Due.is("13: a child, one fewer", x.mark(5, 5), 1);
        SnowHut y = Due.hut("w00 f01f02f03 b5000 c5676 h4352 a9000 m4444 b4999");
        Due.is("13: a bishop moved by three", y.mark(0, 1), 1);
        Due.is("13: a canon, not holding 0, is not moved", y.mark(1, 1), 4);
        Due.is("13: a canon would hold three more", y.mark(1, 4), 3);
        Due.is("13: a child, two fewer", y.mark(2, 5), 2);
        Due.is("13: a child holding 0", y.mark(2, 2), 11);
        Due.is("13: an actress holding 0", y.mark(3, 2), 11);
        Due.is("13: a mule holding nothing", y.mark(4, 3), 4);
        Due.is("13: a bishop, not holding 0", y.mark(5, 1), 4);
        SnowHut up = Due.hutWithTwoUp("w09 g9000 a4000");
        up.say(0);
        Due.is("13: later", up.mark(1, 2), 8);
    }

    private static void markRefused() {
        SnowHut x = Due.hut(ALL_KINDS);
        Due.refuses("13: i below", x, SnowHut.BAD, () -> x.mark(-1, 1));
        Due.refuses("13: i above", x, SnowHut.BAD, () -> x.mark(6, 1));
        Due.refuses("13: kind 0", x, SnowHut.BAD, () -> x.mark(0, 0));
        Due.refuses("13: kind below", x, SnowHut.BAD, () -> x.mark(0, -1));
        Due.refuses("13: kind above", x, SnowHut.BAD, () -> x.mark(0, 6));
        boolean[][] is = {{false, false, false, false, false}, {true, false, false, false, false},
            {false, true, false, false, false}, {false, false, true, false, false},
            {true, false, false, true, false}, {false, true, false, false, true}};
        for (int i = 0; i < 6; i++) {
            for (int kind = 1; kind <= 5; kind++) {
                final int who = i;
                final int which = kind;
                if (is[i][kind - 1]) {
                    Due.is("13: guest " + i + " is of kind " + kind, x.mark(i, kind) >= 0 ? 1 : 0, 1);
                } else {
                    Due.finds("13: guest " + i + " is not of kind " + kind, x, 3, () -> x.mark(who, which));
                }
            }
        }
        SnowHut none = new SnowHut();
        Due.refuses("13: no guests", none, SnowHut.BAD, () -> none.mark(0, 1));
    }

    private static void follows() {
        SnowHut x = new SnowHut();
        for (int set = 0; set < 16; set++) {
            Due.is("14: without a hut, follows(" + set + ")", x.follows(set), set);
        }
        Due.refuses("14: below", x, SnowHut.BAD, () -> x.follows(-1));
        Due.refuses("14: above", x, SnowHut.BAD, () -> x.follows(16));
        SnowHut up = Due.hut("w00 f01f12f23 g0000g0000");
        int[] wantUp = {0, 15, 14, 15, 12, 15, 14, 15, 8, 15, 14, 15, 12, 15, 14, 15};
        SnowHut down = Due.hut("w00 f32f21f10 g0000g0000");
        int[] wantDown = {0, 1, 3, 3, 7, 7, 7, 7, 15, 15, 15, 15, 15, 15, 15, 15};
        for (int set = 0; set < 16; set++) {
            Due.is("14: upwards, follows(" + set + ")", up.follows(set), wantUp[set]);
            Due.is("14: downwards, follows(" + set + ")", down.follows(set), wantDown[set]);
        }
        SnowHut round = Due.hut("w00 f02f20 g0000g0000");
        Due.is("14: round", round.follows(1), 5);
        Due.is("14: round from the other", round.follows(4), 5);
        Due.is("14: aside of it", round.follows(10), 10);
    }

    private static void moved() {
        SnowHut x = Due.hut(ALL_KINDS);
        int[][] want = {{11, 12, 11, 11}, {10, 10, 12, 10}, {12, 12, 12, 12},
            {11, 12, 9, 9}, {10, 12, 10, 10}, {12, 13, 12, 12}};
        for (int i = 0; i < 6; i++) {
            for (int claim = 0; claim < 4; claim++) {
                Due.is("15: moved(" + i + ", " + claim + ")", x.moved(i, claim), want[i][claim]);
            }
        }
        Due.refuses("15: i below", x, SnowHut.BAD, () -> x.moved(-1, 0));
        Due.refuses("15: i above", x, SnowHut.BAD, () -> x.moved(6, 0));
        Due.refuses("15: claim below", x, SnowHut.BAD, () -> x.moved(0, -1));
        Due.refuses("15: claim above", x, SnowHut.BAD, () -> x.moved(0, 4));
        SnowHut none = new SnowHut();
        Due.refuses("15: no guests", none, SnowHut.BAD, () -> none.moved(0, 0));
    }

    private static void movedByKind() {
        SnowHut x = Due.hut("w00 f01f12 g9000 m9000 m0000 c6000 h3000 c7000");
        Due.is("15: by one step, not by two", x.moved(0, 2), 11);
        Due.is("15: what follows, a mule does not hold", x.moved(1, 1), 9);
        Due.is("15: a mule holds it", x.moved(1, 0), 11);
        Due.is("15: as if below 0 were kept", x.moved(2, 0), 9);
        Due.is("15: a canon does not hold 6", x.moved(3, 1), 10);
        Due.is("15: a child holds 3", x.moved(4, 1), 13);
        Due.is("15: a canon holds 7", x.moved(5, 1), 12);
        SnowHut y = Due.hutWithTwoUp("w40 g9000 a9000");
        for (int n = 0; n < 8; n++) {
            y.say(0);
        }
        Due.tells("15: at 20", y, y.guest(1, 1), 20);
        Due.is("15: as if above 20 were kept", y.moved(1, 0), 12);
        SnowHut z = Due.hut("w00 f01f10 m5500 m5400");
        Due.is("15: a mule holds both", z.moved(0, 1), 12);
        Due.is("15: a mule holds one", z.moved(1, 1), 9);
    }
}
