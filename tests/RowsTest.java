/** Promises 1 to 7: a new object, rows. */
public final class RowsTest {
    public static void main(String[] args) {
        newObject();
        row();
        lay();
        at();
        tear();
        copy();
        copyRefused();
        mean();
        Due.end("RowsTest");
    }

    private static void newObject() {
        SnowHut x = new SnowHut();
        for (int what = 0; what <= 10; what++) {
            Due.is("1: new, count(" + what + ")", x.count(what), 0);
        }
        for (int r = 0; r < 6; r++) {
            final int missing = r;
            Due.finds("1: new, no row " + r, x, 1, () -> x.at(missing, 0));
        }
        for (int t = 0; t < 4; t++) {
            final int missing = t;
            Due.finds("1: new, no text " + t, x, 1, () -> x.fault(missing));
        }
        for (int k = 0; k < 3; k++) {
            final int missing = k;
            Due.finds("1: new, no kept hut " + k, x, 1, () -> x.on(missing));
        }
        Due.refuses("1: new, no guest", x, SnowHut.BAD, () -> x.guest(0, 0));
        Due.refuses("1: new, nobody up", x, SnowHut.STATE, x::both);
        SnowHut y = new SnowHut();
        x.row(0, 3);
        Due.is("1: an object of its own", y.count(8), 0);
    }

    private static void row() {
        SnowHut x = new SnowHut();
        Due.is("2: row(0, 3)", x.row(0, 3), 3);
        Due.rowIs("2: row 0", x, 0, 0, 0, 0);
        Due.is("2: the last row, the longest", x.row(5, 40), 40);
        Due.tells("2: its last place", x, x.at(5, 39), 0);
        Due.is("2: no places", x.row(1, 0), 0);
        Due.rowIs("2: row 1", x, 1);
        Due.is("2: rows there", x.count(8), 3);
        Due.fill(x, 2, 7, 8, 9);
        Due.is("2: anew", x.row(2, 3), 3);
        Due.rowIs("2: anew, all 0", x, 2, 0, 0, 0);
        Due.is("2: shorter", x.row(2, 1), 1);
        Due.rowIs("2: shorter", x, 2, 0);
        Due.refuses("2: r below", x, SnowHut.BAD, () -> x.row(-1, 1));
        Due.refuses("2: r above", x, SnowHut.BAD, () -> x.row(6, 1));
        Due.refuses("2: n above", x, SnowHut.BAD, () -> x.row(0, 41));
        Due.refuses("2: n far above", x, SnowHut.BAD, () -> x.row(0, Integer.MAX_VALUE));
        Due.finds("2: n below", x, 5, () -> x.row(0, -1));
        Due.finds("2: n far below", x, 5, () -> x.row(0, Integer.MIN_VALUE));
        Due.refuses("2: BAD ahead of SIZE", x, SnowHut.BAD, () -> x.row(6, -1));
    }

    private static void lay() {
        SnowHut x = new SnowHut();
        x.row(0, 2);
        Due.tells("3: first", x, x.lay(0, 1, -5), 0);
        Due.tells("3: again", x, x.lay(0, 1, Integer.MIN_VALUE), -5);
        Due.tells("3: once more", x, x.lay(0, 1, 6), Integer.MIN_VALUE);
        Due.rowIs("3: row 0", x, 0, 0, 6);
        Due.refuses("3: r below", x, SnowHut.BAD, () -> x.lay(-1, 0, 1));
        Due.refuses("3: r above", x, SnowHut.BAD, () -> x.lay(6, 0, 1));
        Due.finds("3: missing", x, 1, () -> x.lay(1, 0, 1));
        Due.finds("3: missing ahead of beyond", x, 1, () -> x.lay(1, -1, 1));
        Due.finds("3: below", x, 2, () -> x.lay(0, -1, 1));
        Due.finds("3: above", x, 2, () -> x.lay(0, 2, 1));
        Due.finds("3: far above", x, 2, () -> x.lay(0, Integer.MAX_VALUE, 1));
        Due.finds("3: far below", x, 2, () -> x.lay(0, Integer.MIN_VALUE, 1));
    }

    private static void at() {
        SnowHut x = new SnowHut();
        Due.fill(x, 3, 4, -7);
        Due.tells("4: at(3, 0)", x, x.at(3, 0), 4);
        Due.tells("4: at(3, 1)", x, x.at(3, 1), -7);
        Due.tells("4: it stays", x, x.at(3, 1), -7);
        Due.refuses("4: r below", x, SnowHut.BAD, () -> x.at(-1, 0));
        Due.refuses("4: r above", x, SnowHut.BAD, () -> x.at(6, 0));
        Due.finds("4: missing", x, 1, () -> x.at(4, 0));
        Due.finds("4: missing ahead of beyond", x, 1, () -> x.at(4, 9));
        Due.finds("4: below", x, 2, () -> x.at(3, -1));
        Due.finds("4: above", x, 2, () -> x.at(3, 2));
    }

    private static void tear() {
        SnowHut x = new SnowHut();
        x.row(0, 2);
        x.row(5, 0);
        Due.is("5: tear(0)", x.tear(0), 1);
        Due.is("5: one row is left", x.count(8), 1);
        Due.finds("5: torn is missing", x, 1, () -> x.at(0, 0));
        Due.finds("5: torn twice", x, 1, () -> x.tear(0));
        Due.is("5: without places", x.tear(5), 1);
        Due.finds("5: never there", x, 1, () -> x.tear(3));
        Due.refuses("5: r below", x, SnowHut.BAD, () -> x.tear(-1));
        Due.refuses("5: r above", x, SnowHut.BAD, () -> x.tear(6));
        Due.fill(x, 0, 3);
        x.tear(0);
        x.row(0, 1);
        Due.rowIs("5: there again, anew", x, 0, 0);
    }

    private static void copy() {
        SnowHut x = new SnowHut();
        Due.fill(x, 0, 1, 2, 3, 4, 5);
        Due.fill(x, 1, 6, 7, 8);
        Due.is("6: from one to another", x.copy(0, 1, 1, 0, 2), 1);
        Due.rowIs("6: to", x, 1, 2, 3, 8);
        Due.rowIs("6: from stays", x, 0, 1, 2, 3, 4, 5);
        Due.is("6: upwards in itself", x.copy(0, 0, 0, 1, 4), 1);
        Due.rowIs("6: upwards in itself", x, 0, 1, 1, 2, 3, 4);
        Due.is("6: downwards in itself", x.copy(0, 2, 0, 0, 3), 1);
        Due.rowIs("6: downwards in itself", x, 0, 2, 3, 4, 3, 4);
        Due.is("6: the whole", x.copy(1, 0, 0, 2, 3), 1);
        Due.rowIs("6: the whole", x, 0, 2, 3, 2, 3, 8);
        Due.is("6: none, at both ends", x.copy(0, 5, 1, 3, 0), 1);
        Due.is("6: none, of a row without places", x.row(2, 0), 0);
        Due.is("6: none, of a row without places", x.copy(2, 0, 2, 0, 0), 1);
    }

    private static void copyRefused() {
        SnowHut x = new SnowHut();
        Due.fill(x, 0, 1, 2, 3, 4, 5);
        Due.fill(x, 1, 6, 7, 8);
        Due.refuses("6: r below", x, SnowHut.BAD, () -> x.copy(-1, 0, 1, 0, 1));
        Due.refuses("6: r above", x, SnowHut.BAD, () -> x.copy(6, 0, 1, 0, 1));
        Due.refuses("6: to below", x, SnowHut.BAD, () -> x.copy(0, 0, -1, 0, 1));
        Due.refuses("6: to above", x, SnowHut.BAD, () -> x.copy(0, 0, 6, 0, 1));
        Due.refuses("6: BAD ahead of SIZE", x, SnowHut.BAD, () -> x.copy(0, 0, 6, 0, -1));
        Due.finds("6: n below", x, 5, () -> x.copy(0, 0, 1, 0, -1));
        Due.finds("6: SIZE ahead of NOTHING", x, 5, () -> x.copy(2, 0, 1, 0, Integer.MIN_VALUE));
        Due.finds("6: from is missing", x, 1, () -> x.copy(2, 0, 1, 0, 1));
        Due.finds("6: to is missing", x, 1, () -> x.copy(0, 0, 2, 0, 1));
        Due.finds("6: NOTHING ahead of BEYOND", x, 1, () -> x.copy(0, 9, 2, 0, 1));
        Due.finds("6: i below", x, 2, () -> x.copy(0, -1, 1, 0, 1));
        Due.finds("6: j below", x, 2, () -> x.copy(0, 0, 1, -1, 1));
        Due.finds("6: not so many from i", x, 2, () -> x.copy(0, 4, 1, 0, 2));
        Due.finds("6: not so many from j", x, 2, () -> x.copy(0, 0, 1, 1, 3));
        Due.finds("6: none, i below", x, 2, () -> x.copy(0, -1, 1, 0, 0));
        Due.finds("6: none, i above", x, 2, () -> x.copy(0, 6, 1, 0, 0));
        Due.finds("6: none, j below", x, 2, () -> x.copy(0, 0, 1, -1, 0));
        Due.finds("6: none, j above", x, 2, () -> x.copy(0, 0, 1, 4, 0));
        Due.finds("6: n far above", x, 2, () -> x.copy(0, 1, 1, 0, Integer.MAX_VALUE));
        Due.finds("6: i far above", x, 2, () -> x.copy(0, Integer.MAX_VALUE, 1, 0, 1));
        Due.finds("6: j far above", x, 2, () -> x.copy(0, 0, 1, Integer.MAX_VALUE, 1));
    }

    private static void mean() {
        SnowHut x = new SnowHut();
        Due.fill(x, 0, 1, 2, 5);
        Due.tells("7: 8 by 3", x, x.mean(0), 2);
        Due.fill(x, 0, -1, -2, -5);
        Due.tells("7: -8 by 3 is cut", x, x.mean(0), -2);
        Due.fill(x, 0, 3, -4);
        Due.tells("7: -1 by 2 is cut", x, x.mean(0), 0);
        int most = Integer.MAX_VALUE;
        Due.fill(x, 0, most, most, most);
        Due.tells("7: a sum beyond ints", x, x.mean(0), most);
        int least = Integer.MIN_VALUE;
        Due.fill(x, 0, least, least);
        Due.tells("7: a sum below ints", x, x.mean(0), least);
        Due.fill(x, 1, 9);
        Due.tells("7: of one", x, x.mean(1), 9);
        x.row(2, 0);
        Due.finds("7: shared among none", x, 4, () -> x.mean(2));
        Due.finds("7: missing", x, 1, () -> x.mean(3));
        Due.refuses("7: r below", x, SnowHut.BAD, () -> x.mean(-1));
        Due.refuses("7: r above", x, SnowHut.BAD, () -> x.mean(6));
    }
}
