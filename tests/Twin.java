import java.util.ArrayList;
import java.util.Arrays;
import java.util.List;

/**
 * The document once more, by other means than the class: talks are counted through by their
 * numbers, undone is what was put by, kept huts are copies. Slow, and not bound to LANGUAGE.md.
 */
final class Twin {
    private static final int BAD = -1, FULL = -2, FINDING = -3, STATE = -4, SPENT = -6, NONE = -9;

    /** A HUT at one time; never changed, but for by the methods that copy it first. */
    private static final class Scene {
        int[] kinds = {};
        int[][] weights = {};
        boolean[][] from = new boolean[4][4];
        int woodAtFirst, wood, sayings, first = -1, second = -1;

        Scene copy() {
            Scene s = new Scene();
            s.kinds = kinds.clone();
            s.weights = new int[weights.length][];
            for (int i = 0; i < weights.length; i++) {
                s.weights[i] = weights[i].clone();
            }
            s.from = from;
            s.woodAtFirst = woodAtFirst;
            s.wood = wood;
            s.sayings = sayings;
            s.first = first;
            s.second = second;
            return s;
        }

        boolean holds(int i, int claim) {
            return weights[i][claim] >= threshold(kinds[i]);
        }

        int held(int i) {
            int set = 0;
            for (int claim = 3; claim >= 0; claim--) {
                set = 2 * set + (holds(i, claim) ? 1 : 0);
            }
            return set;
        }

        int moved(int i, int claim) {
            boolean reason = false;
            for (int other = 0; other < 4; other++) {
                reason |= from[other][claim] && holds(i, other);
            }
            int kind = kinds[i];
            if (kind == 1 || kind == 4) {
                return reason ? 2 : 0;
            }
            if (kind == 2 || kind == 5) {
                return reason ? 3 : 2;
            }
            if (kind == 3 && !holds(i, claim)) {
                return -1;
            }
            return reason ? 2 : 1;
        }

        boolean canSay(int saying) {
            return first >= 0 && holds(saying / 4 == 0 ? first : second, saying % 4);
        }

        void hear(int saying) {
            int who = saying / 4 == 0 ? second : first;
            int weight = weights[who][saying % 4] + moved(who, saying % 4);
            weights[who][saying % 4] = weight < 0 ? 0 : weight > 20 ? 20 : weight;
        }

        int both() {
            return held(first) & held(second);
        }

        Scene with(int i, int kind) {
            Scene s = copy();
            s.kinds[i] = kind;
            return s;
        }
    }

    private static int threshold(int kind) {
        return kind == 4 ? 7 : kind == 5 ? 3 : 5;
    }

    private final int[][] rows = new int[6][];
    private final int[][] texts = new int[4][];
    /** The HUT at first and behind each DEED; the last is now. */
    private List<Scene> scenes = new ArrayList<>(List.of(new Scene()));
    private final List<List<Scene>> kept = new ArrayList<>(Arrays.asList(null, null, null));
    private final int[] found = new int[6];
    private int finding, asked;
    private long upper, lower = 1;
    private Scene read;

    private Scene now() {
        return scenes.get(scenes.size() - 1);
    }

    private int guests() {
        return now().kinds.length;
    }

    private int deeds() {
        return scenes.size() - 1;
    }

    private boolean up() {
        return now().first >= 0;
    }

    private int found(int f) {
        finding = f;
        found[f]++;
        return FINDING;
    }

    private int tell(int what) {
        asked = what;
        return 1;
    }

    private static boolean in(int v, int least, int most) {
        return v >= least && v <= most;
    }

    /** Answers a call by its number in the document (its promise) and its arguments. */
    long call(int promise, int[] a) {
        if (promise <= 7) {
            return rowCall(promise, a);
        }
        if (promise <= 15) {
            return hutCall(promise, a);
        }
        if (promise <= 21) {
            return deedCall(promise, a);
        }
        if (promise <= 27) {
            return talkCall(promise, a);
        }
        return promise <= 35 ? askCall(promise, a) : toldCall(promise, a);
    }

    private int rowCall(int promise, int[] a) {
        int[] row = in(a[0], 0, 5) ? rows[a[0]] : null;
        if (!in(a[0], 0, 5) || promise == 2 && a[1] > 40 || promise == 6 && !in(a[2], 0, 5)) {
            return BAD;
        }
        if (promise == 2) {
            if (a[1] < 0) {
                return found(5);
            }
            rows[a[0]] = new int[a[1]];
            return a[1];
        }
        if (promise == 6) {
            return copy(row, a[1], rows[a[2]], a[3], a[4]);
        }
        if (row == null) {
            return found(1);
        }
        if (promise == 5) {
            rows[a[0]] = null;
            return 1;
        }
        if (promise == 7) {
            return row.length == 0 ? found(4) : tell((int) (Arrays.stream(row).asLongStream().sum() / row.length));
        }
        if (!in(a[1], 0, row.length - 1)) {
            return found(2);
        }
        int was = row[a[1]];
        if (promise == 3) {
            row[a[1]] = a[2];
        }
        return tell(was);
    }

    private int copy(int[] row, int i, int[] to, int j, int n) {
        if (n < 0) {
            return found(5);
        }
        if (row == null || to == null) {
            return found(1);
        }
        if (i < 0 || j < 0 || (long) i + n > row.length || (long) j + n > to.length) {
            return found(2);
        }
        int[] taken = Arrays.copyOfRange(row, i, i + n);
        for (int k = 0; k < n; k++) {
            to[j + k] = taken[k];
        }
        return 1;
    }

    private int hutCall(int promise, int[] a) {
        if (promise <= 11) {
            return textCall(promise, a);
        }
        if (promise == 14) {
            return in(a[0], 0, 15) ? closed(a[0]) : BAD;
        }
        if (!in(a[0], 0, guests() - 1)) {
            return BAD;
        }
        int i = a[0];
        if (promise == 15) {
            return in(a[1], 0, 3) ? now().moved(i, a[1]) + 10 : BAD;
        }
        if (promise == 12) {
            return in(a[1], 0, 6) ? tell(guest(i, a[1])) : BAD;
        }
        if (!in(a[1], 1, 5)) {
            return BAD;
        }
        int kind = now().kinds[i];
        if (kind != a[1] && !(kind == 4 && a[1] == 1) && !(kind == 5 && a[1] == 2)) {
            return found(3);
        }
        int sum = 0;
        for (int claim = 0; claim < 4; claim++) {
            int weight = now().weights[i][claim];
            int moved = now().moved(i, claim);
            switch (a[1]) {
                case 1 -> sum += moved == 0 ? 1 : 0;
                case 2 -> sum += moved;
                case 3 -> sum += weight < 5 ? 1 : 0;
                case 4 -> sum += weight == 5 || weight == 6 ? 1 : 0;
                default -> sum += weight == 3 || weight == 4 ? 1 : 0;
            }
        }
        return sum;
    }

    private int guest(int i, int what) {
        return switch (what) {
            case 0 -> now().kinds[i];
            case 5 -> now().held(i);
            case 6 -> now().first == i ? 1 : now().second == i ? 2 : 0;
            default -> now().weights[i][what - 1];
        };
    }

    private int textCall(int promise, int[] a) {
        if (!in(a[0], 0, 3) || promise == 8 && a[1] > 60) {
            return BAD;
        }
        if (promise == 8) {
            if (a[1] < 0) {
                return found(5);
            }
            texts[a[0]] = new int[a[1]];
            Arrays.fill(texts[a[0]], ' ');
            return a[1];
        }
        int[] text = texts[a[0]];
        if (text == null) {
            return found(1);
        }
        if (promise == 9) {
            if (!in(a[1], 0, text.length - 1)) {
                return found(2);
            }
            int was = text[a[1]];
            text[a[1]] = ((a[2] + 128) % 256 + 256) % 256 - 128;
            return was + 1000;
        }
        int fault = fault(text);
        if (promise == 10) {
            return fault;
        }
        if (fault != NONE) {
            return STATE;
        }
        scenes = new ArrayList<>(List.of(read));
        kept.replaceAll(k -> null);
        return guests();
    }

    /** By items in a text of signs: an item is taken as it stands whole, else its fault is sought. */
    private int fault(int[] text) {
        StringBuilder signs = new StringBuilder();
        for (int b : text) {
            signs.append(b < 0 ? '?' : (char) b);
        }
        read = new Scene();
        int place = 0;
        boolean wood = false;
        while (true) {
            while (place < text.length && signs.charAt(place) == ' ') {
                place++;
            }
            if (place == text.length) {
                return wood && read.kinds.length >= 2 ? NONE : text.length;
            }
            String rest = signs.substring(place);
            char letter = rest.charAt(0);
            String pattern = !wood ? "w[0-9][0-9]" : letter == 'f' ? "f[0-3][0-3]" : "[gbamch][0-9]{4}";
            int whole = wood && letter != 'f' ? 5 : 3;
            if (letter != 'f' && wood && read.kinds.length == 6) {
                return place;
            }
            int fits = fitting(rest, pattern, whole);
            if (fits < whole) {
                return place + fits;
            }
            int faultWithin = take(rest.substring(0, whole));
            if (faultWithin > 0) {
                return place + faultWithin;
            }
            wood = true;
            place += whole;
        }
    }

    /** How many signs of a text are as those of an item. */
    private static int fitting(String rest, String pattern, int whole) {
        String model = pattern.startsWith("w") ? "w00" : pattern.startsWith("f") ? "f00" : "g0000";
        int n = 0;
        while (n < whole && n < rest.length()
                && (rest.substring(0, n + 1) + model.substring(n + 1)).matches(pattern)) {
            n++;
        }
        return n;
    }

    /** Takes an item; the place in it that is a fault, or 0. */
    private int take(String item) {
        int number = Integer.parseInt(item.substring(1));
        if (item.charAt(0) == 'w') {
            read.wood = number;
            read.woodAtFirst = number;
            return number > 40 ? 1 : 0;
        }
        if (item.charAt(0) == 'f') {
            read.from[number / 10][number % 10] = true;
            return number % 11 == 0 ? 2 : 0;
        }
        int n = read.kinds.length;
        read.kinds = Arrays.copyOf(read.kinds, n + 1);
        read.kinds[n] = "gbamch".indexOf(item.charAt(0));
        read.weights = Arrays.copyOf(read.weights, n + 1);
        read.weights[n] = new int[] {number / 1000, number / 100 % 10, number / 10 % 10, number % 10};
        return 0;
    }

    private int closed(int set) {
        boolean[][] way = new boolean[4][4];
        for (int from = 0; from < 4; from++) {
            way[from] = now().from[from].clone();
            way[from][from] = true;
        }
        for (int by = 0; by < 4; by++) {
            for (int from = 0; from < 4; from++) {
                for (int to = 0; to < 4; to++) {
                    way[from][to] |= way[from][by] && way[by][to];
                }
            }
        }
        int all = 0;
        for (int from = 0; from < 4; from++) {
            for (int to = 0; to < 4; to++) {
                all |= (set & 1 << from) != 0 && way[from][to] ? 1 << to : 0;
            }
        }
        return all;
    }

    private int deedCall(int promise, int[] a) {
        Scene next = now().copy();
        switch (promise) {
            case 16:
                if (!in(a[0], 0, guests() - 1) || !in(a[1], 0, guests() - 1) || a[0] == a[1]) {
                    return BAD;
                }
                if (now().first == a[0] && now().second == a[1]) {
                    return STATE;
                }
                next.first = a[0];
                next.second = a[1];
                return deeds() == 40 ? FULL : done(next).both();
            case 17:
                if (!in(a[0], 0, 7)) {
                    return BAD;
                }
                if (!now().canSay(a[0])) {
                    return STATE;
                }
                if (now().wood == 0) {
                    return SPENT;
                }
                if (deeds() == 40) {
                    return FULL;
                }
                speak(a[0]);
                return now().weights[a[0] < 4 ? now().second : now().first][a[0] % 4];
            case 18:
                if (guests() == 0 || now().wood == now().woodAtFirst) {
                    return STATE;
                }
                if (deeds() == 40) {
                    return FULL;
                }
                int was = now().wood;
                bring();
                return was;
            case 19:
                if (!in(a[0], 0, deeds())) {
                    return BAD;
                }
                int gone = deeds() - a[0];
                scenes = new ArrayList<>(scenes.subList(0, a[0] + 1));
                return gone;
            default:
                return keepOrOn(promise, a[0]);
        }
    }

    private int keepOrOn(int promise, int k) {
        if (!in(k, 0, 2)) {
            return BAD;
        }
        if (promise == 20) {
            if (guests() == 0) {
                return STATE;
            }
            kept.set(k, new ArrayList<>(scenes));
            return deeds();
        }
        if (kept.get(k) == null) {
            return found(1);
        }
        scenes = new ArrayList<>(kept.get(k));
        return deeds();
    }

    private Scene done(Scene next) {
        scenes.add(next);
        return next;
    }

    private void speak(int saying) {
        Scene next = now().copy();
        next.hear(saying);
        next.wood--;
        next.sayings++;
        done(next);
    }

    private void bring() {
        Scene next = now().copy();
        next.wood = next.woodAtFirst;
        done(next);
    }

    /** Behind the TALK with a number of n figures below 8; null: it can't be. */
    private static Scene behind(Scene start, int talk, int n) {
        Scene s = start.copy();
        for (int k = n - 1; k >= 0; k--) {
            int saying = talk >> 3 * k & 7;
            if (!s.canSay(saying)) {
                return null;
            }
            s.hear(saying);
        }
        return s;
    }

    private static int firstAgreeing(Scene start, int n, int claims) {
        for (int talk = 0; talk < 1 << 3 * n; talk++) {
            Scene s = behind(start, talk, n);
            if (s != null && s.held(s.first) == s.held(s.second) && (s.both() & claims) == claims) {
                return talk;
            }
        }
        return -1;
    }

    private int talkCall(int promise, int[] a) {
        if (promise == 27) {
            return match();
        }
        if (promise == 24 && !in(a[0], 0, 5) || promise == 25 && (!in(a[0], 0, 15) || !in(a[1], 0, 5))
                || promise == 26 && (!in(a[0], 0, 15) || !in(a[1], 0, 5))) {
            return BAD;
        }
        if (!up()) {
            return STATE;
        }
        Scene s = now().copy();
        switch (promise) {
            case 22:
                asked = (s.held(s.first) | s.held(s.second)) - s.both();
                return s.both();
            case 23:
                return s.held(s.first) + 16 * s.held(s.second);
            case 24:
                return talk(s, rows[a[0]]);
            case 25:
                return soonest(s, a[0], a[1]);
            default:
                return ways(s, a[0], a[1]);
        }
    }

    private int talk(Scene s, int[] row) {
        if (row == null) {
            return found(1);
        }
        if (Arrays.stream(row).anyMatch(v -> !in(v, 0, 7))) {
            return found(3);
        }
        int n = 0;
        while (n < row.length && s.canSay(row[n])) {
            s.hear(row[n++]);
        }
        asked = s.both();
        return n;
    }

    private int soonest(Scene s, int claims, int r) {
        for (int n = 0; n <= 5; n++) {
            int talk = firstAgreeing(s, n, claims);
            if (talk >= 0) {
                rows[r] = new int[n];
                for (int k = 0; k < n; k++) {
                    rows[r][k] = talk >> 3 * (n - 1 - k) & 7;
                }
                return n;
            }
        }
        return NONE;
    }

    private int ways(Scene start, int claims, int n) {
        upper = 0;
        lower = 1;
        int all = 15;
        for (int talk = 0; talk < 1 << 3 * n; talk++) {
            Scene s = behind(start, talk, n);
            if (s != null && (s.both() & claims) == claims) {
                upper++;
                all &= s.both();
            }
        }
        return tell(upper == 0 ? 0 : all);
    }

    private int match() {
        if (guests() == 0) {
            return STATE;
        }
        for (int n = 0; n <= 3; n++) {
            for (int i = 0; i < guests(); i++) {
                for (int j = i + 1; j < guests(); j++) {
                    Scene s = now().copy();
                    s.first = i;
                    s.second = j;
                    if (firstAgreeing(s, n, 0) >= 0) {
                        tell(n);
                        return 10 * i + j;
                    }
                }
            }
        }
        return NONE;
    }

    private int askCall(int promise, int[] a) {
        switch (promise) {
            case 28:
                return sets();
            case 29:
                return in(a[0], 0, guests() - 1) ? change(now().held(a[0])) : BAD;
            case 30:
            case 31:
                return kindsOrTest(promise, a[0], a[1]);
            case 32:
                if (!in(a[0], 0, 5)) {
                    return BAD;
                }
                return up() ? duel(now(), a[0], 1) : STATE;
            case 33:
            case 34:
                return odds(promise, a);
            default:
                return lots(a[0], a[1]);
        }
    }

    private int sets() {
        if (guests() == 0) {
            return STATE;
        }
        int n = 1;
        int all = 15;
        for (int set = 1; set < 16; set++) {
            if (closed(set) == set) {
                n++;
                all &= set;
            }
        }
        tell(all);
        return n;
    }

    private int change(int held) {
        for (int n = 0; n <= 4; n++) {
            for (int set = 0; set < 16; set++) {
                if (Integer.bitCount(set ^ held) == n && closed(set) == set) {
                    tell(set);
                    return n;
                }
            }
        }
        return NONE;
    }

    private int kindsOrTest(int promise, int i, int r) {
        if (!in(i, 0, guests() - 1) || !in(r, 0, 5)) {
            return BAD;
        }
        int[] row = rows[r];
        if (row == null) {
            return found(1);
        }
        if (row.length % 3 != 0) {
            return found(5);
        }
        for (int k = 0; k < row.length; k++) {
            if (!in(row[k], k % 3 == 2 ? 9 : 0, k % 3 == 0 ? 3 : k % 3 == 1 ? 20 : 13)) {
                return found(3);
            }
        }
        int kinds = 0;
        for (int kind = 0; kind < 6; kind++) {
            boolean fits = true;
            for (int k = 0; k < row.length; k += 3) {
                Scene s = now().with(i, kind);
                s.weights[i][row[k]] = row[k + 1];
                fits &= s.moved(i, row[k]) + 10 == row[k + 2];
            }
            kinds |= fits ? 1 << kind : 0;
        }
        return promise == 30 ? kinds : test(i, kinds);
    }

    private int test(int i, int kinds) {
        if (kinds == 0) {
            return NONE;
        }
        for (int part = 1; part <= 6; part++) {
            for (int claim = 0; claim < 4; claim++) {
                int[] alike = new int[5];
                for (int kind = 0; kind < 6; kind++) {
                    alike[now().with(i, kind).moved(i, claim) + 1] += kinds >> kind & 1;
                }
                if (Arrays.stream(alike).max().getAsInt() == part) {
                    tell(part);
                    return claim;
                }
            }
        }
        return NONE;
    }

    /** The first one's turns bring 1 (many), the other one's -1 (few). */
    private static int duel(Scene s, int n, int side) {
        List<Integer> ends = new ArrayList<>();
        for (int saying = 0; saying < 8 && n > 0; saying++) {
            Scene next = behind(s, saying, 1);
            if (next != null) {
                ends.add(side * duel(next, n - 1, -side));
            }
        }
        if (ends.isEmpty()) {
            return n > 0 ? duel(s, n - 1, -side) : Integer.bitCount(s.both());
        }
        return side * ends.stream().mapToInt(v -> v).max().getAsInt();
    }

    private int odds(int promise, int[] a) {
        int claim = promise == 33 ? a[0] : -1;
        int r = promise == 33 ? a[1] : a[0];
        int p = promise == 33 ? a[2] : a[1];
        if (promise == 33 && !in(claim, 0, 3) || !in(r, 0, 5) || !in(p, 0, 12)) {
            return BAD;
        }
        if (!up()) {
            return STATE;
        }
        int[] row = rows[r];
        if (row == null) {
            return found(1);
        }
        if (row.length > 6) {
            return found(5);
        }
        if (Arrays.stream(row).anyMatch(v -> !in(v, 0, 7))) {
            return found(3);
        }
        long share = 0;
        long all = 0;
        for (int heard = 0; heard < 1 << row.length; heard++) {
            long chance = 1;
            Scene s = now().copy();
            for (int k = 0; k < row.length; k++) {
                boolean hears = (heard >> k & 1) != 0;
                chance *= hears ? 12 - p : p;
                if (hears && s.canSay(row[k])) {
                    s.hear(row[k]);
                }
            }
            all += chance;
            share += chance * (promise == 34 ? Integer.bitCount(s.both()) : s.both() >> claim & 1);
        }
        upper = share;
        lower = all;
        for (long d = 2; d <= 3; d++) {
            while (lower % d == 0 && upper % d == 0) {
                upper /= d;
                lower /= d;
            }
        }
        return 1;
    }

    private int lots(int n, int seed) {
        if (!in(n, 1, 20) || !in(seed, 1, 2147483646)) {
            return BAD;
        }
        if (!up()) {
            return STATE;
        }
        if (deeds() + n > 40) {
            return FULL;
        }
        long lot = seed;
        for (int k = 0; k < n; k++) {
            lot = Math.floorMod(48271 * lot, 2147483647L);
            int saying = (int) (lot >> 3) & 7;
            if (now().canSay(saying) && now().wood > 0) {
                speak(saying);
            } else {
                bring();
            }
        }
        return now().both();
    }

    private long toldCall(int promise, int[] a) {
        return switch (promise) {
            case 36 -> asked;
            case 37 -> upper;
            case 38 -> lower;
            case 39 -> count(a[0]);
            case 40 -> finding;
            case 41 -> in(a[0], 1, 5) ? found[a[0]] : BAD;
            default -> digest();
        };
    }

    private int count(int what) {
        int all = guests() == 0 ? 0 : 15;
        int bishops = 0;
        for (int i = 0; i < guests(); i++) {
            all &= now().held(i);
            bishops += now().kinds[i] == 1 || now().kinds[i] == 4 ? 1 : 0;
        }
        int pairs = 0;
        for (int pair = 0; pair < 16; pair++) {
            pairs += now().from[pair / 4][pair % 4] ? 1 : 0;
        }
        return switch (what) {
            case 0 -> guests();
            case 1 -> now().wood;
            case 2 -> deeds();
            case 3 -> now().sayings;
            case 4 -> up() ? 10 * now().first + now().second : 0;
            case 5 -> pairs;
            case 6 -> all;
            case 7 -> bishops;
            case 8 -> (int) Arrays.stream(rows).filter(r -> r != null).count();
            case 9 -> (int) Arrays.stream(texts).filter(t -> t != null).count();
            case 10 -> (int) kept.stream().filter(k -> k != null).count();
            default -> BAD;
        };
    }

    private long digest() {
        List<Integer> values = new ArrayList<>();
        for (int what = 0; what <= 10; what++) {
            values.add(count(what));
        }
        for (int set = 1; set <= 8; set *= 2) {
            values.add(closed(set));
        }
        for (int i = 0; i < guests(); i++) {
            for (int what = 0; what <= 6; what++) {
                values.add(guest(i, what));
            }
        }
        for (List<Scene> k : kept) {
            values.add(k == null ? -1 : k.size() - 1);
        }
        for (int[][] shelf : List.of(rows, texts)) {
            for (int[] row : shelf) {
                values.add(row == null ? -1 : row.length);
                for (int k = 0; row != null && k < row.length; k++) {
                    values.add(row[k]);
                }
            }
        }
        long h = 17;
        for (int v : values) {
            h = 31 * h + v;
        }
        return h;
    }
}
