import java.util.function.IntSupplier;

/** What the tests share: counting what is as due, and setting up huts and rows. */
final class Due {
    private static int right = 0;
    private static int wrong = 0;

    private Due() {
    }

    static void is(String what, long got, long want) {
        if (got == want) {
            right++;
        } else {
            wrong++;
            System.out.println(what + " answered " + got + ", due is " + want);
        }
    }

    /** A call that answers 1 and tells by asked(). */
    static void tells(String what, SnowHut x, int got, int told) {
        is(what, got, 1);
        is(what + ", asked()", x.asked(), told);
    }

    /** A call that answers something and tells something more by asked(). */
    static void answers(String what, SnowHut x, int got, int answer, int told) {
        is(what, got, answer);
        is(what + ", asked()", x.asked(), told);
    }

    /** A call that answers 1 and tells by upper() and lower(). */
    static void shares(String what, SnowHut x, int got, long upper, long lower) {
        is(what, got, 1);
        is(what + ", upper()", x.upper(), upper);
        is(what + ", lower()", x.lower(), lower);
    }

    /** A call that is refused (or answers NONE), and changes nothing. */
    static void refuses(String what, SnowHut x, int answer, IntSupplier call) {
        refused(what, x, answer, 0, call);
    }

    /** A call that answers FINDING with a FINDING of this number, and changes nothing else. */
    static void finds(String what, SnowHut x, int finding, IntSupplier call) {
        refused(what, x, SnowHut.FINDING, finding, call);
    }

    private static void refused(String what, SnowHut x, int answer, int finding, IntSupplier call) {
        long digest = x.digest();
        int asked = x.asked();
        long upper = x.upper();
        long lower = x.lower();
        int latest = x.finding();
        int[] often = new int[6];
        for (int f = 1; f <= 5; f++) {
            often[f] = x.findings(f);
        }
        is(what, call.getAsInt(), answer);
        is(what + ", digest() behind", x.digest(), digest);
        is(what + ", asked() behind", x.asked(), asked);
        is(what + ", upper() behind", x.upper(), upper);
        is(what + ", lower() behind", x.lower(), lower);
        is(what + ", finding() behind", x.finding(), finding == 0 ? latest : finding);
        for (int f = 1; f <= 5; f++) {
            is(what + ", findings(" + f + ") behind", x.findings(f), often[f] + (f == finding ? 1 : 0));
        }
    }

    static void write(SnowHut x, int t, String signs) {
        x.text(t, signs.length());
        for (int i = 0; i < signs.length(); i++) {
            x.put(t, i, signs.charAt(i));
        }
    }

    /** A new object with a HUT by a TEXT (number 0, which stays there). */
    static SnowHut hut(String signs) {
        SnowHut x = new SnowHut();
        write(x, 0, signs);
        if (x.hut(0) < 2) {
            wrong++;
            System.out.println("no hut by \"" + signs + "\"");
        }
        return x;
    }

    /** The same, and the first two GUESTS sent UP. */
    static SnowHut hutWithTwoUp(String signs) {
        SnowHut x = hut(signs);
        x.send(0, 1);
        return x;
    }

    static void fill(SnowHut x, int r, int... values) {
        x.row(r, values.length);
        for (int i = 0; i < values.length; i++) {
            x.lay(r, i, values[i]);
        }
    }

    static void rowIs(String what, SnowHut x, int r, int... want) {
        for (int i = 0; i < want.length; i++) {
            tells(what + ", place " + i, x, x.at(r, i), want[i]);
        }
        is(what + ", behind its end", x.at(r, want.length), SnowHut.FINDING);
        is(what + ", behind its end is BEYOND", x.finding(), 2);
    }

    /** WEIGHTS of a GUEST, by one number of two figures each. */
    static void weighs(String what, SnowHut x, int i, int a, int b, int c, int d) {
        int[] want = {a, b, c, d};
        for (int claim = 0; claim < 4; claim++) {
            tells(what + ", claim " + claim + " to guest " + i, x, x.guest(i, claim + 1), want[claim]);
        }
    }

    /** Tells the end of a test: exit code 1 if something was not as due. */
    static void end(String test) {
        System.out.println(test + ": " + right + " as due, " + wrong + " not");
        if (wrong != 0 || right == 0) {
            System.exit(1);
        }
    }
}
