/**
 * Promises 10, 11: the FAULT of TEXTS of which one sign is any byte at any place, or that end at
 * any place, or that are as long as a TEXT can be; each by hand or by the twin's other way to read.
 */
public final class FaultsTest {
    private static final int NONE = SnowHut.NONE, STATE = SnowHut.STATE;
    /** 60 signs: WOOD, six GUESTS of all KINDS, nine times what FOLLOWS. */
    private static final String LONGEST = "w40f01f12g1234f23b9090f30a0000f10m5678c9999f21h4321f32f03f02";

    public static void main(String[] args) {
        Due.is("the longest text's size", LONGEST.length(), 60);
        anyByteAnywhere("w40 g1234f01h9090");
        anyByteAnywhere("  w07b0000 c5555 ");
        everyEnd(LONGEST);
        everyEnd("w00 f01  f10 g0000 b0000 a0000 m0000 c0000 h0000           ");
        longest();
        wood();
        reasons();
        guests();
        blanks();
        twoSigns();
        Due.end("FaultsTest");
    }

    /** Both are asked; where there is a FAULT, hut() is refused, else there is a HUT. */
    private static void ask(Pair pair, int t) {
        long fault = pair.call(10, t);
        long hut = pair.call(11, t);
        Due.is("11: hut() is refused by a FAULT alone", hut == STATE ? 1 : 0, fault == NONE ? 0 : 1);
    }

    private static void faultIs(String signs, int want) {
        Pair pair = new Pair();
        pair.write(2, signs);
        Due.is("10: fault of \"" + signs + "\"", pair.call(10, 2), want);
        ask(pair, 2);
    }

    private static void anyByteAnywhere(String signs) {
        for (int place = 0; place < signs.length(); place++) {
            Pair pair = new Pair();
            pair.write(1, signs);
            for (int v = -128; v <= 127; v++) {
                pair.call(9, 1, place, v);
                ask(pair, 1);
            }
            // 384 is 128 and a byte's wrap more: a byte of -128.
            Due.is("9: what was put last", pair.call(9, 1, place, 384), 1127);
            Due.is("9: cut", pair.call(9, 1, place, 0), 872);
        }
    }

    private static void everyEnd(String signs) {
        for (int end = 0; end <= signs.length(); end++) {
            Pair pair = new Pair();
            pair.write(3, signs.substring(0, end));
            ask(pair, 3);
        }
    }

    private static void longest() {
        faultIs(LONGEST, NONE);
        faultIs(LONGEST.substring(0, 59), 59);
        faultIs(LONGEST.substring(0, 59) + "4", 59);
        faultIs(LONGEST.substring(0, 59) + "0", 59);
        faultIs(LONGEST.substring(0, 59) + " ", 59);
        faultIs(LONGEST.substring(0, 58) + " f", 58);
        faultIs(LONGEST.substring(0, 57) + "  g", 59);
        faultIs(LONGEST.substring(0, 57) + "  f", 60);
        faultIs(LONGEST.substring(0, 57) + "   ", NONE);
        faultIs(" ".repeat(47) + "w00g0000g0000", NONE);
        faultIs(" ".repeat(48) + "w00g0000g000", 60);
        faultIs("w00g0000" + " ".repeat(52), 60);
        faultIs("w00g0000" + " ".repeat(47) + "g0000", NONE);
        faultIs(" ".repeat(60), 60);
        faultIs(" ".repeat(59) + "w", 60);
        faultIs(" ".repeat(59) + "g", 59);
        faultIs("f".repeat(60), 0);
    }

    private static void wood() {
        for (int wood = 0; wood <= 99; wood++) {
            String signs = "w" + wood / 10 + wood % 10 + "g0000b0000";
            faultIs(signs, wood <= 40 ? NONE : 1);
            faultIs("   " + signs, wood <= 40 ? NONE : 4);
        }
        for (String letter : new String[] {"g", "b", "a", "m", "c", "h", "f", "v", "x", "W", "0", "w "}) {
            faultIs(letter + "12g0000b0000", letter.equals("w ") ? 1 : 0);
        }
        // A sign that is no figure is a FAULT by itself, also behind a figure that is too great.
        for (String first : new String[] {"w0", "w4", "w5", "w9"}) {
            faultIs(first, 2);
            faultIs(first + "x", 2);
            faultIs(first + " 0g0000b0000", 2);
        }
        faultIs("w1", 2);
        faultIs("w1g0000b0000", 2);
        faultIs("wg0000b0000", 1);
        faultIs("w123g0000b0000", 3);
        faultIs("w12w12g0000b0000", 3);
        faultIs("g0000b0000", 0);
    }

    private static void reasons() {
        for (int from = 0; from <= 9; from++) {
            for (int to = 0; to <= 9; to++) {
                String signs = "w12f" + from + to + "g0000b0000";
                faultIs(signs, from > 3 ? 4 : to > 3 || from == to ? 5 : NONE);
            }
        }
        faultIs("w12g0000b0000f", 14);
        faultIs("w12g0000b0000f3", 15);
        faultIs("w12g0000b0000f3 ", 15);
        faultIs("w12g0000b0000f 3", 14);
        faultIs("w12g0000b0000f32f23f32f23", NONE);
        faultIs("w12g0000b0000f321", 16);
    }

    private static void guests() {
        String kinds = "gbamch";
        for (int sign = 33; sign < 127; sign++) {
            boolean letter = kinds.indexOf(sign) >= 0;
            faultIs("w12g0000" + (char) sign + "5678", letter ? NONE : sign == 'f' ? 9 : 8);
        }
        faultIs("w12", 3);
        faultIs("w12g0000", 8);
        faultIs("w12f01", 6);
        faultIs("w12f01 ", 7);
        StringBuilder signs = new StringBuilder("w12");
        for (int n = 0; n < 6; n++) {
            signs.append(kinds.charAt(n)).append("0909");
            faultIs(signs.toString(), n == 0 ? signs.length() : NONE);
            faultIs(signs + "  ", n == 0 ? signs.length() + 2 : NONE);
            faultIs(signs.substring(0, signs.length() - 1), signs.length() - 1);
            faultIs(signs.substring(0, signs.length() - 4), signs.length() - 4);
        }
        for (int n = 0; n < 6; n++) {
            faultIs(signs + kinds.substring(n, n + 1) + "0000", 33);
            faultIs(signs + " " + kinds.charAt(n), 34);
        }
        faultIs(signs + "f01", NONE);
        faultIs(signs + "f11", 35);
        faultIs("w12g0000b000", 12);
        faultIs("w12g0000b 0000", 9);
        faultIs("w12g0000b0 000", 10);
        faultIs("w12g0000b00 00", 11);
        faultIs("w12g0000b000 0", 12);
    }

    private static void blanks() {
        faultIs("", 0);
        faultIs(" ", 1);
        faultIs("  ", 2);
        for (int ahead = 0; ahead <= 4; ahead++) {
            for (int between = 0; between <= 4; between++) {
                String gap = " ".repeat(between);
                faultIs(" ".repeat(ahead) + "w12" + gap + "f01" + gap + "g0000" + gap + "b0000" + gap, NONE);
            }
        }
        // Other signs that are often taken for blanks are none.
        faultIs("\tw12g0000b0000", 0);
        faultIs("w12\ng0000b0000", 3);
        faultIs("w12g0000b0000\n", 13);
        faultIs("w12g0000b0000" + (char) 0, 13);
        faultIs("w12g0000b0000" + (char) 160, 13);
    }

    private static boolean isFigure(char sign, int limit) {
        return sign >= '0' && sign < '0' + limit;
    }

    /** Two signs where two figures are due: the first of them that is none is the FAULT. */
    private static void twoSigns() {
        String signs = "/0123456789: wfgbamch" + (char) 0 + (char) 127 + (char) 128 + (char) 176 + (char) 255;
        for (int i = 0; i < signs.length(); i++) {
            for (int j = 0; j < signs.length(); j++) {
                char a = signs.charAt(i);
                char b = signs.charAt(j);
                boolean above = isFigure(a, 10) && isFigure(b, 10) && 10 * (a - '0') + b - '0' > 40;
                faultIs("w" + a + b + "g0000b0000", !isFigure(a, 10) || above ? 1 : !isFigure(b, 10) ? 2 : NONE);
                faultIs("w12f" + a + b + "g0000b0000", !isFigure(a, 4) ? 4 : !isFigure(b, 4) || a == b ? 5 : NONE);
                faultIs("w12g0000b0" + a + b + "0", !isFigure(a, 10) ? 10 : !isFigure(b, 10) ? 11 : NONE);
                faultIs("w12g0000b00" + a + b, !isFigure(a, 10) ? 11 : !isFigure(b, 10) ? 12 : NONE);
            }
        }
    }
}
