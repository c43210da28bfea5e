/**
 * Promises 6 to 35, the edges that the document names but for numbers, refusals and FAULTS: what
 * is empty or full, from which WEIGHT on one HOLDS, 0 and 20, what stays, what wraps around.
 */
public final class EdgesTest {
    private static final String KINDS = "gbamch";
    private static final int[] HOLDS_FROM = {5, 5, 5, 5, 7, 3};

    public static void main(String[] args) {
        means();
        copiesOfAll();
        smallestAndGreatestHut();
        holdsFrom();
        movedByAll();
        keptFromNoughtToTwenty();
        marks();
        followsOfAll();
        woodToItsEnd();
        fortyDeeds();
        keptHuts();
        refusedHut();
        emptyAndFullTalks();
        soonestIntoRows();
        soonestByFive();
        waysOfAll();
        matches();
        setsAndChanges();
        kindsOfAll();
        tests();
        duels();
        chances();
        lots();
        Due.end("EdgesTest");
    }

    private static void means() {
        Pair pair = new Pair();
        int[][] rows = {{1, 1, 0}, {-1, -1, 0}, {-1, -1, -1}, {-1, -2}, {1, 2}, {0}, {Integer.MIN_VALUE},
            {Integer.MAX_VALUE, Integer.MAX_VALUE}, {Integer.MIN_VALUE, Integer.MIN_VALUE, Integer.MIN_VALUE},
            {Integer.MAX_VALUE, Integer.MIN_VALUE}};
        int[] want = {0, 0, -1, -1, 1, 0, Integer.MIN_VALUE, Integer.MAX_VALUE, Integer.MIN_VALUE, 0};
        for (int i = 0; i < rows.length; i++) {
            pair.fill(0, rows[i]);
            pair.takes(7, 0);
            Due.is("7: mean " + i, pair.x.asked(), want[i]);
        }
        int[] forty = new int[40];
        java.util.Arrays.fill(forty, Integer.MAX_VALUE);
        pair.fill(5, forty);
        pair.takes(7, 5);
        Due.is("7: forty of the greatest", pair.x.asked(), Integer.MAX_VALUE);
        pair.fill(1);
        pair.finds(4, 7, 1);
        pair.finds(1, 7, 2);
    }

    /** Within one ROW from each place to each one, so many as there can be and one more. */
    private static void copiesOfAll() {
        for (int i = 0; i <= 5; i++) {
            Pair pair = new Pair();
            for (int j = 0; j <= 5; j++) {
                int most = 5 - Math.max(i, j);
                for (int n = 0; n <= most; n++) {
                    pair.fill(3, 11, 12, 13, 14, 15);
                    pair.takes(6, 3, i, 3, j, n);
                }
                pair.finds(2, 6, 3, i, 3, j, most + 1);
            }
        }
        Pair whole = new Pair();
        whole.takes(2, 0, 40);
        whole.takes(2, 1, 40);
        for (int i = 0; i < 40; i++) {
            whole.call(3, 0, i, 100 + i);
        }
        whole.takes(6, 0, 0, 1, 0, 40);
        whole.takes(6, 1, 0, 1, 1, 39);
        whole.takes(4, 1, 39);
        Due.is("6: as if taken ahead", whole.x.asked(), 138);
        whole.finds(2, 6, 0, 0, 1, 0, 41);
    }

    private static void smallestAndGreatestHut() {
        Pair pair = new Pair();
        pair.write(3, "w00g0000b9999");
        Due.is("11: the fewest", pair.takes(11, 3), 2);
        Due.is("39: WOOD", pair.takes(39, 1), 0);
        Due.is("39: nothing FOLLOWS", pair.takes(39, 5), 0);
        Due.is("39: of who HOLDS nothing and all", pair.takes(39, 6), 0);
        pair.write(3, "w40f01f02f03f10f12f13f20f21f23f30f31f32g9999b9999");
        Due.is("11: all that can follow", pair.takes(11, 3), 2);
        Due.is("39: the most WOOD", pair.takes(39, 1), 40);
        Due.is("39: twelve pairs", pair.takes(39, 5), 12);
        for (int set = 1; set < 16; set++) {
            Due.is("14: all from any", pair.takes(14, set), 15);
        }
        Due.is("14: none from none", pair.takes(14, 0), 0);
        pair.write(3, "w40g9999b9999c9999c9999b9999h9999f01f01f01f01f01");
        Due.is("11: the most", pair.takes(11, 3), 6);
        Due.is("39: told again is nothing more", pair.takes(39, 5), 1);
        Due.is("39: BISHOPS and CANONS", pair.takes(39, 7), 4);
        Due.is("39: HELD by all", pair.takes(39, 6), 15);
    }

    private static void holdsFrom() {
        for (int weight = 0; weight <= 9; weight++) {
            StringBuilder signs = new StringBuilder("w00");
            for (int kind = 0; kind < 6; kind++) {
                signs.append(KINDS.charAt(kind)).append("000").append(weight);
            }
            Pair pair = new Pair().withHut(signs.toString());
            for (int kind = 0; kind < 6; kind++) {
                pair.takes(12, kind, 5);
                int held = weight >= HOLDS_FROM[kind] ? 8 : 0;
                Due.is("12: weight " + weight + " to kind " + kind, pair.x.asked(), held);
                pair.takes(12, kind, 4);
                Due.is("12: it", pair.x.asked(), weight);
            }
        }
    }

    /** Claim 1 FOLLOWS from 0: each KIND, each WEIGHT of both. */
    private static void movedByAll() {
        for (int reason = 0; reason <= 9; reason++) {
            for (int weight = 0; weight <= 9; weight++) {
                StringBuilder signs = new StringBuilder("w00f01f12");
                for (int kind = 0; kind < 6; kind++) {
                    signs.append(KINDS.charAt(kind)).append(reason).append(weight).append("00");
                }
                Pair pair = new Pair().withHut(signs.toString());
                for (int kind = 0; kind < 6; kind++) {
                    boolean follows = reason >= HOLDS_FROM[kind];
                    boolean holds = weight >= HOLDS_FROM[kind];
                    int guest = follows ? 12 : 11;
                    int[] want = {guest, follows ? 12 : 10, guest + 1, holds ? guest : 9, follows ? 12 : 10, guest + 1};
                    Due.is("15: kind " + kind + ", " + reason + weight, pair.takes(15, kind, 1), want[kind]);
                }
            }
        }
        // It FOLLOWS from another one, not from itself; by one step, not by two; from any of some.
        Pair pair = new Pair().withHut("w00 f01f12f31 g0900 g9000 g0009 g9009 b9000 b0900");
        int[][] want = {{11, 11, 12, 11}, {11, 12, 11, 11}, {11, 12, 11, 11}, {11, 12, 11, 11},
            {10, 12, 10, 10}, {10, 10, 12, 10}};
        for (int i = 0; i < 6; i++) {
            for (int claim = 0; claim < 4; claim++) {
                Due.is("15: guest " + i + ", claim " + claim, pair.takes(15, i, claim), want[i][claim]);
            }
        }
    }

    /** One of each KIND goes up to 20 (or down to 0) by the same SAYING, and is MOVED the same there. */
    private static void keptFromNoughtToTwenty() {
        int[][] want = {{2, 16, 18, 20, 20}, {2, 16, 18, 20, 20}, {3, 17, 20, 20, 20}, {2, 16, 18, 20, 20},
            {2, 16, 18, 20, 20}, {3, 17, 20, 20, 20}};
        for (int kind = 0; kind < 6; kind++) {
            Pair pair = new Pair().withTwoUp("w40 f01 g9900 " + KINDS.charAt(kind) + "9800");
            int by = want[kind][0];
            for (int n = 8 + by; n < want[kind][1]; n += by) {
                Due.is("17: on the way", pair.takes(17, 1), n);
            }
            for (int n = 1; n < 5; n++) {
                Due.is("17: up to 20, kind " + kind, pair.takes(17, 1), want[kind][n]);
            }
            Due.is("15: at 20", pair.takes(15, 1, 1), 10 + by);
            Due.is("12: at 20", pair.takes(12, 1, 2), 1);
            Due.is("12: at 20", pair.x.asked(), 20);
        }
        Pair mule = new Pair().withTwoUp("w40 g9000 m1000");
        for (int n = 0; n < 4; n++) {
            Due.is("17: down to 0", mule.takes(17, 0), 0);
            Due.is("15: at 0", mule.takes(15, 1, 0), 9);
        }
        Pair odd = new Pair().withTwoUp("w40 f01 h9900 h9900");
        int[] sayings = {12, 15, 18, 20, 20};
        for (int weight : sayings) {
            Due.is("17: 20 from 18", odd.takes(17, 1), weight);
        }
        Pair one = new Pair().withTwoUp("w40 g9000 g9000");
        for (int weight = 10; weight <= 20; weight++) {
            Due.is("17: 20 from 19", one.takes(17, 0), weight);
        }
        Due.is("17: 20 stays", one.takes(17, 0), 20);
    }

    private static void marks() {
        Pair least = new Pair().withHut("w00 f01f02f03f10 b5500 a0000 m5555 c4777 h2555");
        Due.is("13: BISHOP, all MOVE him", least.takes(13, 0, 1), 0);
        Due.is("13: ACTRESS, by no reason", least.takes(13, 1, 2), 8);
        Due.is("13: MULE, he HOLDS all", least.takes(13, 2, 3), 0);
        Due.is("13: CANON, none more", least.takes(13, 3, 4), 0);
        Due.is("13: CHILD, none fewer", least.takes(13, 4, 5), 0);
        Pair most = new Pair().withHut("w00 f01f12f23f30 b4444 a5555 m4444 c5566 h3344 c6666");
        Due.is("13: BISHOP, none MOVES him", most.takes(13, 0, 1), 4);
        Due.is("13: ACTRESS, each by a reason", most.takes(13, 1, 2), 12);
        Due.is("13: MULE, he HOLDS none", most.takes(13, 2, 3), 4);
        Due.is("13: CANON, four more", most.takes(13, 3, 4), 4);
        Due.is("13: CHILD, four fewer", most.takes(13, 4, 5), 4);
        Due.is("13: a CANON as what he is", most.takes(13, 5, 1), 4);
        Due.is("13: a CHILD as what she is", most.takes(13, 4, 2), 12);
    }

    /** All ways in which claims can follow along a line, and all sets of them. */
    private static void followsOfAll() {
        String[] lines = {"f01f12f23", "f03f32f21", "f20f03f31", "f13f30f02"};
        for (String line : lines) {
            Pair pair = new Pair().withHut("w00" + line + "g0000b0000");
            int first = 1 << line.charAt(1) - '0';
            Due.is("14: three steps", pair.takes(14, first), 15);
            int last = 1 << line.charAt(8) - '0';
            Due.is("14: no step", pair.takes(14, last), last);
            for (int set = 0; set < 16; set++) {
                pair.takes(14, set);
            }
        }
    }

    private static void woodToItsEnd() {
        Pair one = new Pair().withTwoUp("w01 g9999 b9999");
        one.refuses(SnowHut.STATE, 18);
        one.takes(17, 0);
        Due.is("39: the last WOOD", one.takes(39, 1), 0);
        one.refuses(SnowHut.SPENT, 17, 0);
        Due.is("23: can() leaves WOOD aside", one.takes(23), 255);
        Due.is("18: there was none", one.takes(18), 0);
        one.refuses(SnowHut.STATE, 18);
        one.takes(17, 7);
        one.takes(19, 3);
        Due.is("39: WOOD as it was then", one.takes(39, 1), 1);
        one.refuses(SnowHut.STATE, 18);
        Pair none = new Pair().withTwoUp("w00 g9999 b9999");
        none.refuses(SnowHut.SPENT, 17, 0);
        none.refuses(SnowHut.STATE, 18);
        Pair forty = new Pair().withTwoUp("w40 g9999 b9999");
        forty.takes(17, 0);
        Due.is("18: there was 39", forty.takes(18), 39);
        Due.is("39: 40 again", forty.takes(39, 1), 40);
    }

    private static void fortyDeeds() {
        Pair pair = new Pair().withTwoUp("w01 g9999 b9999 m9999");
        for (int n = 0; n < 19; n++) {
            pair.takes(17, n % 8);
            pair.takes(18);
        }
        Due.is("39: 39 DEEDS", pair.takes(39, 2), 39);
        Due.is("16: the 40th", pair.takes(16, 1, 0), 15);
        pair.refuses(SnowHut.FULL, 16, 0, 1);
        pair.refuses(SnowHut.FULL, 16, 2, 1);
        pair.refuses(SnowHut.FULL, 17, 3);
        Due.is("39: SAYINGS", pair.takes(39, 3), 19);
        pair.takes(19, 39);
        Due.is("17: the 40th", pair.takes(17, 0) >= 0 ? 1 : 0, 1);
        pair.refuses(SnowHut.FULL, 18);
        Due.is("19: two", pair.takes(19, 38), 2);
        Due.is("18: the 39th", pair.takes(18), 0);
        pair.takes(17, 0);
        pair.takes(19, 0);
        Due.is("39: nobody is UP", pair.takes(39, 4), 0);
        pair.refuses(SnowHut.STATE, 22);
        Due.is("16: the first again", pair.takes(16, 2, 1), 15);
        Due.is("39: UP", pair.takes(39, 4), 21);
    }

    private static void keptHuts() {
        Pair pair = new Pair().withHut("w02 g9900 b0990 a4000");
        for (int k = 0; k < 3; k++) {
            pair.finds(1, 21, k);
            Due.is("20: without DEEDS", pair.takes(20, k), 0);
            Due.is("39: kept HUTS", pair.takes(39, 10), k + 1);
        }
        pair.takes(16, 0, 2);
        pair.takes(17, 0);
        Due.is("20: over another one", pair.takes(20, 1), 2);
        Due.is("39: no more of them", pair.takes(39, 10), 3);
        pair.takes(17, 0);
        pair.takes(18);
        pair.takes(20, 2);
        Due.is("21: back", pair.takes(21, 1), 2);
        Due.is("39: WOOD then", pair.takes(39, 1), 1);
        Due.is("21: ahead", pair.takes(21, 2), 4);
        Due.is("39: WOOD then", pair.takes(39, 1), 2);
        Due.is("21: to where none was UP", pair.takes(21, 0), 0);
        pair.refuses(SnowHut.STATE, 23);
        Due.is("21: ahead again", pair.takes(21, 2), 4);
        pair.takes(19, 3);
        Due.is("21: on to what is kept, not what became of it", pair.takes(21, 2), 4);
        // A HUT anew, by the same TEXT too: kept HUTS go.
        pair.takes(11, 0);
        for (int k = 0; k < 3; k++) {
            pair.finds(1, 21, k);
        }
        Due.is("39: kept HUTS", pair.takes(39, 10), 0);
    }

    /** By a TEXT with a FAULT, or by none, the HUT, its DEEDS and what is kept stay. */
    private static void refusedHut() {
        Pair pair = new Pair().withTwoUp("w02 f01 g9900 b0990");
        pair.takes(17, 1);
        pair.takes(20, 1);
        String[] faults = {"", " ", "w30", "w30g9999", "w30f02g9999b9999x", "w41g9999b9999", "w30f00g9999b9999"};
        for (String signs : faults) {
            pair.write(1, signs);
            pair.refuses(SnowHut.STATE, 11, 1);
        }
        pair.finds(1, 11, 2);
        Due.is("21: kept still", pair.takes(21, 1), 2);
        Due.is("39: WOOD", pair.takes(39, 1), 1);
        Due.is("39: pairs", pair.takes(39, 5), 1);
        Pair none = new Pair();
        none.write(1, "w30g9999");
        none.refuses(SnowHut.STATE, 11, 1);
        Due.is("39: no GUESTS", none.takes(39, 0), 0);
        none.refuses(SnowHut.BAD, 12, 0, 0);
    }

    private static void emptyAndFullTalks() {
        Pair pair = new Pair().withTwoUp("w00 g9000 b0000");
        pair.fill(0);
        Due.is("24: of no SAYINGS", pair.takes(24, 0), 0);
        Due.is("24: both", pair.x.asked(), 0);
        pair.takes(2, 0, 40);
        Due.is("24: of 40", pair.takes(24, 0), 40);
        pair.call(3, 0, 39, 4);
        Due.is("24: but the last", pair.takes(24, 0), 39);
        pair.call(3, 0, 39, 8);
        pair.finds(3, 24, 0);
        pair.call(3, 0, 39, -1);
        pair.finds(3, 24, 0);
        pair.call(3, 0, 0, 4);
        pair.finds(3, 24, 0);
        pair.call(3, 0, 39, 7);
        Due.is("24: not the first", pair.takes(24, 0), 0);
        // Each is as it can be then: what is HEARD can be said back, never ahead of it.
        Pair then = new Pair().withTwoUp("w00 g9000 g4000");
        then.fill(1, 4);
        Due.is("24: not yet", then.takes(24, 1), 0);
        then.fill(1, 0, 4);
        Due.is("24: then", then.takes(24, 1), 2);
        Due.is("24: both", then.x.asked(), 1);
        Due.is("23: nothing came of it", then.takes(23), 1);
        Pair silent = new Pair().withTwoUp("w00 g4444 c6666");
        Due.is("23: none", silent.takes(23), 0);
        Due.is("22: none", silent.takes(22), 0);
        Due.is("22: one alone none", silent.x.asked(), 0);
        Pair all = new Pair().withTwoUp("w00 g5555 c7777");
        Due.is("23: all", all.takes(23), 255);
        Due.is("22: all", all.takes(22), 15);
        Due.is("22: one alone none", all.x.asked(), 0);
    }

    /** The TALK comes to the ROW anew, whether it was there or not; by NONE the ROW stays. */
    private static void soonestIntoRows() {
        Pair pair = new Pair().withTwoUp("w00 g9000 g4000");
        Due.is("25: into a missing ROW", pair.takes(25, 1, 4), 1);
        Due.is("39: it is there", pair.takes(39, 8), 1);
        pair.takes(2, 4, 40);
        Due.is("25: into the longest", pair.takes(25, 1, 4), 1);
        pair.finds(2, 4, 4, 1);
        pair.refuses(SnowHut.NONE, 25, 2, 3);
        pair.finds(1, 4, 3, 0);
        pair.fill(2, 7, 8, 9);
        pair.refuses(SnowHut.NONE, 25, 15, 2);
        pair.takes(4, 2, 2);
        Due.is("25: it stays", pair.x.asked(), 9);
        Pair agreed = new Pair().withTwoUp("w00 g9000 g8000");
        agreed.fill(2, 7, 8, 9);
        Due.is("25: at once", agreed.takes(25, 1, 2), 0);
        agreed.finds(2, 4, 2, 0);
        Due.is("25: at once, into a missing ROW", agreed.takes(25, 0, 5), 0);
        agreed.finds(2, 4, 5, 0);
        Due.is("39: both are there", agreed.takes(39, 8), 2);
    }

    private static void soonestByFive() {
        String[] others = {"g9500", "g9400", "g9300", "g9200", "g9100", "g9000"};
        for (int n = 0; n < others.length; n++) {
            Pair pair = new Pair().withTwoUp("w00 g9900 " + others[n]);
            if (n <= 5) {
                Due.is("25: by " + n, pair.takes(25, 3, 0), n);
            }
        }
        Pair six = new Pair().withTwoUp("w00 g9990 g9040");
        six.refuses(SnowHut.NONE, 25, 0, 0);
        six.refuses(SnowHut.NONE, 25, 7, 0);
        Pair bishop = new Pair().withTwoUp("w00 g9900 b9400");
        bishop.refuses(SnowHut.NONE, 25, 0, 0);
        Pair mule = new Pair().withTwoUp("w00 m9400 g9900");
        mule.refuses(SnowHut.NONE, 25, 0, 0);
        Pair silent = new Pair().withTwoUp("w00 g4444 g4444");
        Due.is("25: they AGREE on nothing", silent.takes(25, 0, 0), 0);
        silent.refuses(SnowHut.NONE, 25, 8, 0);
    }

    private static void waysOfAll() {
        Pair all = new Pair().withTwoUp("w00 g9999 b9999");
        long talks = 1;
        for (int n = 0; n <= 5; n++) {
            all.takes(26, 15, n);
            Due.is("26: all of " + n, all.x.upper(), talks);
            Due.is("26: by 1", all.x.lower(), 1);
            Due.is("26: both", all.x.asked(), 15);
            talks *= 8;
        }
        Pair silent = new Pair().withTwoUp("w00 g4444 b4444");
        for (int n = 0; n <= 5; n++) {
            silent.takes(26, 0, n);
            Due.is("26: of who can't say a thing", silent.x.upper(), n == 0 ? 1 : 0);
            Due.is("26: by 1", silent.x.lower(), 1);
            Due.is("26: both", silent.x.asked(), 0);
            silent.takes(26, 1, n);
            Due.is("26: none", silent.x.upper(), 0);
        }
        // Behind some of these TALKS they HOLD 0, behind others 1, behind all of them neither.
        Pair either = new Pair().withTwoUp("w00 g9900 g4400");
        either.takes(26, 0, 1);
        Due.is("26: either", either.x.asked(), 0);
        either.takes(26, 1, 1);
        Due.is("26: the one", either.x.asked(), 1);
        either.takes(26, 4, 5);
        Due.is("26: there are none", either.x.asked(), 0);
        Due.is("26: there are none", either.x.upper(), 0);
    }

    private static void matches() {
        String[] others = {"g9500", "g9400", "g9300", "g9200"};
        for (int n = 0; n < others.length; n++) {
            Pair pair = new Pair().withHut("w00 g9900 " + others[n]);
            Due.is("27: by " + n, pair.takes(27), 1);
            Due.is("27: by " + n, pair.x.asked(), n);
        }
        Pair four = new Pair().withHut("w00 g9900 g9100");
        four.takes(28);
        four.refuses(SnowHut.NONE, 27);
        Pair last = new Pair().withHut("w00 b9000 b0900 b0090 b0009 b9900 b9900");
        Due.is("27: the last two", last.takes(27), 45);
        Pair first = new Pair().withHut("w00 b9000 b9000 b9000 b9000 b9000 b9000");
        Due.is("27: the first two", first.takes(27), 1);
        Due.is("27: at once", first.x.asked(), 0);
        Due.is("27: nobody needs to be UP", first.takes(39, 4), 0);
    }

    private static void setsAndChanges() {
        Pair none = new Pair().withHut("w00 g0000 b9999");
        Due.is("28: all sets", none.takes(28), 16);
        Due.is("28: in all of them", none.x.asked(), 0);
        Due.is("29: nothing HELD holds together", none.takes(29, 0), 0);
        Due.is("29: it", none.x.asked(), 0);
        Due.is("29: all HELD holds together", none.takes(29, 1), 0);
        Due.is("29: it", none.x.asked(), 15);
        Pair round = new Pair().withHut("w00 f01f12f23f30 g9000 g9900 g9990 g9999 g0000 g0909");
        Due.is("28: none and all", round.takes(28), 2);
        Due.is("28: in all but the empty one", round.x.asked(), 15);
        int[] fewest = {1, 2, 1, 0, 0, 2};
        int[] which = {0, 0, 15, 15, 0, 0};
        for (int i = 0; i < 6; i++) {
            Due.is("29: round, guest " + i, round.takes(29, i), fewest[i]);
            Due.is("29: round, guest " + i, round.x.asked(), which[i]);
        }
        // Of like few the least number: 1 and 7 are as near to 3 as 3 lacks 2 or has 1 too many.
        Pair like = new Pair().withHut("w00 f12 g9900 g0900 g9909");
        Due.is("29: like few", like.takes(29, 0), 1);
        Due.is("29: the least", like.x.asked(), 1);
        like.takes(29, 1);
        Due.is("29: the least", like.x.asked(), 0);
        like.takes(29, 2);
        Due.is("29: the least", like.x.asked(), 9);
    }

    /** Each triple that can be told, for one of each KIND. */
    private static void kindsOfAll() {
        for (int claim = 0; claim < 4; claim++) {
            for (int i = 0; i < 6; i++) {
                Pair pair = new Pair().withHut("w00 f01f21f03 g6000 b0400 a0030 m7000 c6003 h3700");
                pair.fill(0, claim, 0, 9);
                for (int weight = 0; weight <= 20; weight++) {
                    for (int moved = 9; moved <= 13; moved++) {
                        pair.call(3, 0, 1, weight);
                        pair.call(3, 0, 2, moved);
                        pair.takes(30, i, 0);
                        pair.takes(31, i, 0);
                    }
                }
            }
        }
        Pair none = new Pair().withHut("w00 g0000 h9999");
        none.fill(1);
        Due.is("30: a ROW without places is well", none.takes(30, 1, 1), 63);
        for (int size = 0; size <= 40; size++) {
            none.takes(2, 2, size);
            if (size % 3 != 0) {
                none.finds(5, 30, 0, 2);
                none.finds(5, 31, 0, 2);
            }
        }
    }

    private static void tests() {
        Pair pair = new Pair().withHut("w00 g0000 g9999");
        pair.fill(0);
        Due.is("31: without places, of all KINDS", pair.takes(31, 0, 0), 0);
        Due.is("31: two alike", pair.x.asked(), 2);
        Due.is("31: who HOLDS all", pair.takes(31, 1, 0), 0);
        Due.is("31: two alike", pair.x.asked(), 2);
        pair.fill(0, 0, 9, 9);
        pair.takes(4, 0, 1);
        pair.refuses(SnowHut.NONE, 31, 0, 0);
        Due.is("31: asked() stays by NONE", pair.x.asked(), 9);
        pair.fill(0, 0, 0, 9);
        Due.is("31: one KIND alone", pair.takes(31, 0, 0), 0);
        Due.is("31: it alone", pair.x.asked(), 1);
    }

    private static void duels() {
        Pair silent = new Pair().withTwoUp("w40 g4444 b4444");
        Pair all = new Pair().withTwoUp("w00 g9999 b9999");
        Pair one = new Pair().withTwoUp("w00 g9999 g4444");
        int[] want = {0, 1, 1, 2, 2, 3};
        for (int n = 0; n <= 5; n++) {
            Due.is("32: if there is any", silent.takes(32, n), 0);
            Due.is("32: all stay", all.takes(32, n), 4);
            Due.is("32: every other turn", one.takes(32, n), want[n]);
        }
    }

    private static void chances() {
        Pair pair = new Pair().withTwoUp("w00 g9900 g4400");
        pair.fill(0);
        pair.fill(1, 0);
        pair.fill(2, 0, 1, 4, 5, 0, 1);
        pair.fill(3, 0, 1, 4, 5, 0, 1, 4);
        for (int p = 0; p <= 12; p++) {
            pair.takes(33, 0, 0, p);
            Due.is("33: no SAYINGS", pair.x.upper(), 0);
            Due.is("33: 0 by 1", pair.x.lower(), 1);
            pair.takes(34, 0, p);
            Due.is("34: no SAYINGS", pair.x.upper(), 0);
            pair.takes(33, 0, 1, p);
            Due.is("33: one SAYING", 12 * pair.x.upper(), (12 - p) * pair.x.lower());
            Due.is("33: the lower number is above 0", pair.x.lower() > 0 ? 1 : 0, 1);
            for (int claim = 0; claim < 4; claim++) {
                pair.takes(33, claim, 2, p);
            }
            pair.takes(34, 2, p);
            pair.finds(5, 33, 0, 3, p);
            pair.finds(5, 34, 3, p);
        }
    }

    private static void lots() {
        for (int seed : new int[] {1, 2, 44488, 44489, 1073741823, 2147483645, 2147483646}) {
            Pair pair = new Pair().withTwoUp("w03 f01 g9040 g4900 m0009");
            pair.takes(35, 1, seed);
            pair.takes(35, 20, seed);
            pair.takes(35, 18, seed);
            Due.is("35: 40 DEEDS", pair.takes(39, 2), 40);
            pair.refuses(SnowHut.FULL, 35, 1, seed);
            pair.takes(19, 1);
        }
        Pair none = new Pair().withTwoUp("w00 g9999 b9999");
        none.takes(35, 20, 5);
        none.takes(35, 19, 5);
        Due.is("35: WOOD as at first is brought", none.takes(39, 2), 40);
        Due.is("35: no SAYINGS", none.takes(39, 3), 0);
    }
}
