/**
 * A hut in the snow as a kind of court: guests who hold claims, two of them sent up,
 * what they say to one another, and what can be asked about it.
 * The promises are told in ../shared/DOC.md; the part of Java that is used, in ../shared/LANGUAGE.md.
 */
public final class SnowHut {
    public static final int BAD = -1, FULL = -2, FINDING = -3, STATE = -4, SPENT = -6, NONE = -9;

    private static final int NOTHING = 1, BEYOND = 2, UNLIKE = 3, NOUGHT = 4, SIZE = 5;
    /** What a look for refusals answers when there is none; no refusal is 0. */
    private static final int FINE = 0;

    private static final int ROWS = 6, ROW_MOST = 40, TEXTS = 4, TEXT_MOST = 60, KEPT = 3;
    private static final int CLAIMS = 4, ALL_CLAIMS = 15, SAYINGS = 8;
    private static final int GUESTS_MOST = 6, GUESTS_LEAST = 2, DEEDS_MOST = 40;
    private static final int WOOD_MOST = 40, WEIGHT_MOST = 20;
    /** MOVED is told with so much more, so that a MULE's -1 is no refusal. */
    private static final int MOVED_MORE = 10, PUT_MORE = 1000;

    private static final int BLANK = 32, ZERO = 48, LETTER_WOOD = 119, LETTER_FOLLOWS = 102;

    private static final int GUEST = 0, BISHOP = 1, ACTRESS = 2, MULE = 3, CANON = 4, CHILD = 5, KINDS = 6;
    private static final int[] LETTERS = {103, 98, 97, 109, 99, 104};
    /** From which WEIGHT on one of a KIND HOLDS a CLAIM. */
    private static final int[] HOLDS_FROM = {5, 5, 5, 5, 7, 3};
    /** The KIND as which one of a KIND is MOVED: a CANON is a BISHOP, a CHILD an ACTRESS. */
    private static final int[] MOVED_AS = {GUEST, BISHOP, ACTRESS, MULE, BISHOP, ACTRESS};

    /** DEEDS by numbers: 0 to 7 the SAYINGS, then WOOD, then who is sent UP. */
    private static final int DEED_WOOD = 8, DEED_SEND = 9;

    private static final int SOUGHT_MOST = 5, MATCH_MOST = 3, HEARD_MOST = 6, TWELVE = 12;
    private static final int TRIPLE = 3, MOVED_TOLD_LEAST = 9, MOVED_TOLD_MOST = 13;
    private static final int LOTS_MOST = 20;
    private static final long LOT_FACTOR = 48271, LOT_MODULUS = 2147483647;
    private static final int COUNTS = 11, GUEST_TELLS = 7, FINDINGS = 5;

    private final Shelf rows = new Shelf(ROWS, ROW_MOST);
    private final Shelf texts = new Shelf(TEXTS, TEXT_MOST);
    private final Shelf kept = new Shelf(KEPT, DEEDS_MOST);
    private final Reader reader = new Reader();
    private final Hut now = new Hut();
    private final Talks aside = new Talks();
    private final Guest supposed = new Guest();
    private final int[] foundHowOften = new int[FINDINGS + 1];
    private int latestFinding = 0;
    private int latestAsked = 0;
    private long latestUpper = 0;
    private long latestLower = 1;

    public SnowHut() {
    }

    // ---- 1 rows, texts, huts

    public int row(int r, int n) {
        if (!rows.names(r) || n > ROW_MOST) {
            return BAD;
        }
        if (n < 0) {
            return found(SIZE);
        }
        rows.make(r, n, 0);
        return n;
    }

    public int lay(int r, int i, int v) {
        int refusal = placeRefusal(rows, r, i);
        if (refusal != FINE) {
            return refusal;
        }
        int was = rows.get(r, i);
        rows.set(r, i, v);
        return tell(was);
    }

    public int at(int r, int i) {
        int refusal = placeRefusal(rows, r, i);
        return refusal != FINE ? refusal : tell(rows.get(r, i));
    }

    public int tear(int r) {
        int refusal = missingRefusal(rows, r);
        if (refusal != FINE) {
            return refusal;
        }
        rows.drop(r);
        return 1;
    }

    public int copy(int r, int i, int to, int j, int n) {
        if (!rows.names(r) || !rows.names(to)) {
            return BAD;
        }
        if (n < 0) {
            return found(SIZE);
        }
        if (!rows.has(r) || !rows.has(to)) {
            return found(NOTHING);
        }
        if (!rows.spans(r, i, n) || !rows.spans(to, j, n)) {
            return found(BEYOND);
        }
        rows.carry(r, i, to, j, n);
        return 1;
    }

    public int mean(int r) {
        int refusal = missingRefusal(rows, r);
        if (refusal != FINE) {
            return refusal;
        }
        int n = rows.size(r);
        if (n <= 0) {
            return found(NOUGHT);
        }
        return tell((int) (rows.sum(r) / n));
    }

    public int text(int t, int n) {
        if (!texts.names(t) || n > TEXT_MOST) {
            return BAD;
        }
        if (n < 0) {
            return found(SIZE);
        }
        texts.make(t, n, BLANK);
        return n;
    }

    public int put(int t, int i, int v) {
        int refusal = placeRefusal(texts, t, i);
        if (refusal != FINE) {
            return refusal;
        }
        int was = texts.get(t, i);
        texts.set(t, i, (byte) v);
        return was + PUT_MORE;
    }

    public int fault(int t) {
        int refusal = missingRefusal(texts, t);
        return refusal != FINE ? refusal : reader.read(texts, t);
    }

    public int hut(int t) {
        int refusal = missingRefusal(texts, t);
        if (refusal != FINE) {
            return refusal;
        }
        if (reader.read(texts, t) != NONE) {
            return STATE;
        }
        now.open(reader);
        kept.dropAll();
        return now.guests();
    }

    public int guest(int i, int what) {
        if (!now.isGuest(i) || what < 0 || what >= GUEST_TELLS) {
            return BAD;
        }
        return tell(now.told(i, what));
    }

    public int mark(int i, int kind) {
        if (!now.isGuest(i) || kind <= GUEST || kind >= KINDS) {
            return BAD;
        }
        Guest one = now.guestAt(i);
        if (!one.isOf(kind)) {
            return found(UNLIKE);
        }
        switch (kind) {
            case BISHOP:
                return one.unmoving(now.reasons());
            case ACTRESS:
                return one.movedByAll(now.reasons());
            case MULE:
                return CLAIMS - Integer.bitCount(one.held());
            case CANON:
                return Integer.bitCount(one.heldAs(BISHOP) & ~one.held());
            default:
                return Integer.bitCount(one.held() & ~one.heldAs(ACTRESS));
        }
    }

    public int follows(int set) {
        return isSet(set) ? now.closed(set) : BAD;
    }

    public int moved(int i, int claim) {
        if (!now.isGuest(i) || !isClaim(claim)) {
            return BAD;
        }
        return now.guestAt(i).moves(claim, now.reasons()) + MOVED_MORE;
    }

    // ---- 2 deeds

    public int send(int i, int j) {
        if (!now.isGuest(i) || !now.isGuest(j) || i == j) {
            return BAD;
        }
        if (now.areUp(i, j)) {
            return STATE;
        }
        if (!now.hasPlace(1)) {
            return FULL;
        }
        now.act(DEED_SEND + GUESTS_MOST * i + j);
        return now.shared();
    }

    public int say(int saying) {
        if (!isSaying(saying)) {
            return BAD;
        }
        if (!now.canSay(saying)) {
            return STATE;
        }
        if (now.woodLeft() <= 0) {
            return SPENT;
        }
        if (!now.hasPlace(1)) {
            return FULL;
        }
        now.act(saying);
        return now.hearer(saying).weight(saying % CLAIMS);
    }

    public int wood() {
        if (now.guests() == 0 || now.woodLeft() == now.woodAtFirst()) {
            return STATE;
        }
        if (!now.hasPlace(1)) {
            return FULL;
        }
        int was = now.woodLeft();
        now.act(DEED_WOOD);
        return was;
    }

    public int undo(int n) {
        int done = now.deeds();
        if (n < 0 || n > done) {
            return BAD;
        }
        now.goBack(n);
        return done - n;
    }

    public int keep(int k) {
        if (!kept.names(k)) {
            return BAD;
        }
        if (now.guests() == 0) {
            return STATE;
        }
        now.keepIn(kept, k);
        return now.deeds();
    }

    public int on(int k) {
        int refusal = missingRefusal(kept, k);
        if (refusal != FINE) {
            return refusal;
        }
        now.goOnFrom(kept, k);
        return now.deeds();
    }

    // ---- 3 talks

    public int both() {
        if (!now.someUp()) {
            return STATE;
        }
        takeAside();
        tell(aside.unshared());
        return aside.shared();
    }

    public int can() {
        if (!now.someUp()) {
            return STATE;
        }
        takeAside();
        return aside.sayable();
    }

    public int talk(int r) {
        int refusal = talkRefusal(r, ROW_MOST);
        if (refusal != FINE) {
            return refusal;
        }
        takeAside();
        int n = 0;
        while (n < rows.size(r) && aside.canSay(rows.get(r, n))) {
            aside.utter(rows.get(r, n));
            n++;
        }
        tell(aside.shared());
        return n;
    }

    public int soonest(int claims, int r) {
        if (!isSet(claims) || !rows.names(r)) {
            return BAD;
        }
        if (!now.someUp()) {
            return STATE;
        }
        takeAside();
        int n = aside.fewest(claims, SOUGHT_MOST);
        if (n != NONE) {
            rows.make(r, n, 0);
            for (int i = 0; i < n; i++) {
                rows.set(r, i, aside.said(i));
            }
        }
        return n;
    }

    public int ways(int claims, int n) {
        if (!isSet(claims) || n < 0 || n > SOUGHT_MOST) {
            return BAD;
        }
        if (!now.someUp()) {
            return STATE;
        }
        takeAside();
        latestUpper = aside.talksTo(claims, n);
        latestLower = 1;
        return tell(aside.alwaysShared());
    }

    public int match() {
        int guests = now.guests();
        if (guests == 0) {
            return STATE;
        }
        int two = NONE;
        // A later pair counts only if it needs fewer than the best so far.
        int most = MATCH_MOST;
        for (int i = 0; i < guests; i++) {
            for (int j = i + 1; j < guests; j++) {
                aside.between(now.guestAt(i), now.guestAt(j), now.reasons());
                int n = aside.fewest(0, most);
                if (n != NONE) {
                    two = 10 * i + j;
                    most = n - 1;
                }
            }
        }
        if (two != NONE) {
            tell(most + 1);
        }
        return two;
    }

    // ---- 4 what holds together

    public int sets() {
        if (now.guests() == 0) {
            return STATE;
        }
        int n = 0;
        int inAll = ALL_CLAIMS;
        for (int set = 0; set <= ALL_CLAIMS; set++) {
            if (now.closed(set) == set) {
                n++;
                inAll &= set == 0 ? ALL_CLAIMS : set;
            }
        }
        tell(inAll);
        return n;
    }

    public int change(int i) {
        if (!now.isGuest(i)) {
            return BAD;
        }
        int held = now.guestAt(i).held();
        int nearest = ALL_CLAIMS;
        for (int set = ALL_CLAIMS; set >= 0; set--) {
            // Downwards, so that of like few the least number stays.
            if (now.closed(set) == set && Integer.bitCount(set ^ held) <= Integer.bitCount(nearest ^ held)) {
                nearest = set;
            }
        }
        tell(nearest);
        return Integer.bitCount(nearest ^ held);
    }

    // ---- 5 who one is

    public int kinds(int i, int r) {
        int refusal = triplesRefusal(i, r);
        return refusal != FINE ? refusal : kindsBy(i, r);
    }

    public int test(int i, int r) {
        int refusal = triplesRefusal(i, r);
        if (refusal != FINE) {
            return refusal;
        }
        int kinds = kindsBy(i, r);
        if (kinds == 0) {
            return NONE;
        }
        int best = 0;
        int least = KINDS + 1;
        for (int claim = 0; claim < CLAIMS; claim++) {
            int part = greatestPart(i, kinds, claim);
            if (part < least) {
                least = part;
                best = claim;
            }
        }
        tell(least);
        return best;
    }

    // ---- 6 by turns

    public int duel(int n) {
        if (n < 0 || n > SOUGHT_MOST) {
            return BAD;
        }
        if (!now.someUp()) {
            return STATE;
        }
        takeAside();
        return aside.duelled(n);
    }

    // ---- 7 chances, lots

    public int odds(int claim, int r, int p) {
        if (!isClaim(claim) || !rows.names(r) || p < 0 || p > TWELVE) {
            return BAD;
        }
        int refusal = talkRefusal(r, HEARD_MOST);
        if (refusal != FINE) {
            return refusal;
        }
        takeAside();
        aside.hearSome(rows, r, p);
        return tellShare(aside.chancesOf(claim), aside.allChances());
    }

    public int mid(int r, int p) {
        if (!rows.names(r) || p < 0 || p > TWELVE) {
            return BAD;
        }
        int refusal = talkRefusal(r, HEARD_MOST);
        if (refusal != FINE) {
            return refusal;
        }
        takeAside();
        aside.hearSome(rows, r, p);
        long sum = 0;
        for (int claim = 0; claim < CLAIMS; claim++) {
            sum += aside.chancesOf(claim);
        }
        return tellShare(sum, aside.allChances());
    }

    public int lots(int n, int seed) {
        if (n < 1 || n > LOTS_MOST || seed < 1 || seed >= LOT_MODULUS) {
            return BAD;
        }
        if (!now.someUp()) {
            return STATE;
        }
        if (!now.hasPlace(n)) {
            return FULL;
        }
        long lot = seed;
        for (int i = 0; i < n; i++) {
            lot = lot * LOT_FACTOR % LOT_MODULUS;
            int saying = (int) (lot / SAYINGS % SAYINGS);
            now.act(now.canSay(saying) && now.woodLeft() > 0 ? saying : DEED_WOOD);
        }
        return now.shared();
    }

    // ---- 8 what is told

    public int asked() {
        return latestAsked;
    }

    public long upper() {
        return latestUpper;
    }

    public long lower() {
        return latestLower;
    }

    public int count(int what) {
        switch (what) {
            case 0:
                return now.guests();
            case 1:
                return now.woodLeft();
            case 2:
                return now.deeds();
            case 3:
                return now.sayingsDone();
            case 4:
                return now.whoIsUp();
            case 5:
                return Integer.bitCount(now.reasons());
            case 6:
                return now.heldByAll();
            case 7:
                return now.bishops();
            case 8:
                return rows.there();
            case 9:
                return texts.there();
            case 10:
                return kept.there();
            default:
                return BAD;
        }
    }

    public int finding() {
        return latestFinding;
    }

    public int findings(int f) {
        return f < 1 || f > FINDINGS ? BAD : foundHowOften[f];
    }

    public long digest() {
        long h = 17;
        for (int what = 0; what < COUNTS; what++) {
            h = 31 * h + count(what);
        }
        for (int claim = 0; claim < CLAIMS; claim++) {
            h = 31 * h + now.closed(1 << claim);
        }
        for (int i = 0; i < now.guests(); i++) {
            for (int what = 0; what < GUEST_TELLS; what++) {
                h = 31 * h + now.told(i, what);
            }
        }
        for (int k = 0; k < KEPT; k++) {
            h = 31 * h + kept.size(k);
        }
        return texts.mixed(rows.mixed(h));
    }

    // ---- what the calls share

    private int tell(int told) {
        latestAsked = told;
        return 1;
    }

    private int tellShare(long share, long all) {
        long divisor = commonDivisor(share, all);
        if (divisor <= 0) {
            return 1;
        }
        latestUpper = share / divisor;
        latestLower = all / divisor;
        return 1;
    }

    private int found(int finding) {
        if (finding >= 1 && finding <= FINDINGS) {
            latestFinding = finding;
            foundHowOften[finding]++;
        }
        return FINDING;
    }

    private int missingRefusal(Shelf shelf, int r) {
        if (!shelf.names(r)) {
            return BAD;
        }
        return shelf.has(r) ? FINE : found(NOTHING);
    }

    private int placeRefusal(Shelf shelf, int r, int i) {
        int refusal = missingRefusal(shelf, r);
        if (refusal != FINE) {
            return refusal;
        }
        return shelf.spans(r, i, 1) ? FINE : found(BEYOND);
    }

    private int talkRefusal(int r, int longest) {
        if (!rows.names(r)) {
            return BAD;
        }
        if (!now.someUp()) {
            return STATE;
        }
        if (!rows.has(r)) {
            return found(NOTHING);
        }
        if (rows.size(r) > longest) {
            return found(SIZE);
        }
        for (int i = 0; i < rows.size(r); i++) {
            if (!isSaying(rows.get(r, i))) {
                return found(UNLIKE);
            }
        }
        return FINE;
    }

    private int triplesRefusal(int i, int r) {
        if (!now.isGuest(i) || !rows.names(r)) {
            return BAD;
        }
        if (!rows.has(r)) {
            return found(NOTHING);
        }
        if (rows.size(r) % TRIPLE != 0) {
            return found(SIZE);
        }
        for (int place = 0; place < rows.size(r); place += TRIPLE) {
            int weighed = rows.get(r, place + 1);
            int movedTold = rows.get(r, place + 2);
            if (!isClaim(rows.get(r, place)) || weighed < 0 || weighed > WEIGHT_MOST
                    || movedTold < MOVED_TOLD_LEAST || movedTold > MOVED_TOLD_MOST) {
                return found(UNLIKE);
            }
        }
        return FINE;
    }

    private int kindsBy(int i, int r) {
        int kinds = 0;
        for (int kind = 0; kind < KINDS; kind++) {
            if (fitsAll(i, r, kind)) {
                kinds |= 1 << kind;
            }
        }
        return kinds;
    }

    private boolean fitsAll(int i, int r, int kind) {
        for (int place = 0; place < rows.size(r); place += TRIPLE) {
            int claim = rows.get(r, place);
            supposed.beLike(now.guestAt(i), kind);
            supposed.weigh(claim, rows.get(r, place + 1));
            if (supposed.moves(claim, now.reasons()) + MOVED_MORE != rows.get(r, place + 2)) {
                return false;
            }
        }
        return true;
    }

    private int greatestPart(int i, int kinds, int claim) {
        int greatest = 0;
        for (int kind = 0; kind < KINDS; kind++) {
            int alike = 0;
            for (int other = 0; other < KINDS; other++) {
                if ((kinds >> kind & kinds >> other & 1) != 0
                        && movedAs(i, kind, claim) == movedAs(i, other, claim)) {
                    alike++;
                }
            }
            greatest = Math.max(greatest, alike);
        }
        return greatest;
    }

    private int movedAs(int i, int kind, int claim) {
        supposed.beLike(now.guestAt(i), kind);
        return supposed.moves(claim, now.reasons());
    }

    private void takeAside() {
        aside.between(now.guestAt(now.firstUp()), now.guestAt(now.secondUp()), now.reasons());
    }

    private static boolean isClaim(int claim) {
        return claim >= 0 && claim < CLAIMS;
    }

    private static boolean isSet(int claims) {
        return claims >= 0 && claims <= ALL_CLAIMS;
    }

    private static boolean isSaying(int saying) {
        return saying >= 0 && saying < SAYINGS;
    }

    private static long commonDivisor(long a, long b) {
        // Euclid's steps on longs are fewer than a hundred.
        for (int step = 0; step < 100 && b != 0; step++) {
            long rest = a % b;
            a = b;
            b = rest;
        }
        return a;
    }

    /** Rows of numbers side by side, each of its own size up to a limit, or missing. */
    private static final class Shelf {
        private static final int MISSING = -1;

        private final int[] sizes;
        private final int[][] places;
        private final int most;

        Shelf(int shelves, int longest) {
            int n = Math.max(0, shelves);
            most = Math.max(0, longest);
            sizes = new int[n];
            places = new int[n][most];
            for (int r = 0; r < n; r++) {
                sizes[r] = MISSING;
            }
        }

        boolean names(int r) {
            return r >= 0 && r < sizes.length;
        }

        boolean has(int r) {
            return size(r) != MISSING;
        }

        int size(int r) {
            return names(r) ? sizes[r] : MISSING;
        }

        /** Whether there are n places from place i on; with n 0, i may be the size itself. */
        boolean spans(int r, int i, int n) {
            return has(r) && i >= 0 && n >= 0 && i <= size(r) - n;
        }

        int get(int r, int i) {
            return spans(r, i, 1) ? places[r][i] : 0;
        }

        void set(int r, int i, int v) {
            if (spans(r, i, 1)) {
                places[r][i] = v;
            }
        }

        void make(int r, int n, int filling) {
            if (names(r) && n >= 0 && n <= most) {
                sizes[r] = n;
                for (int i = 0; i < n; i++) {
                    places[r][i] = filling;
                }
            }
        }

        void drop(int r) {
            if (names(r)) {
                sizes[r] = MISSING;
            }
        }

        void dropAll() {
            for (int r = 0; r < sizes.length; r++) {
                sizes[r] = MISSING;
            }
        }

        void carry(int r, int i, int to, int j, int n) {
            if (spans(r, i, n) && spans(to, j, n)) {
                System.arraycopy(places[r], i, places[to], j, n);
            }
        }

        long sum(int r) {
            long sum = 0;
            for (int i = 0; i < size(r); i++) {
                sum += get(r, i);
            }
            return sum;
        }

        int there() {
            int n = 0;
            for (int r = 0; r < sizes.length; r++) {
                n += has(r) ? 1 : 0;
            }
            return n;
        }

        long mixed(long mixture) {
            long h = mixture;
            for (int r = 0; r < sizes.length; r++) {
                h = 31 * h + size(r);
                for (int i = 0; i < size(r); i++) {
                    h = 31 * h + get(r, i);
                }
            }
            return h;
        }
    }

    /** Reads a HUT from a TEXT, up to its FAULT; what it read stays until the next reading. */
    private static final class Reader {
        /** What stands behind the end: no byte. */
        private static final int END = 1000;

        private final Guest[] guests = new Guest[GUESTS_MOST];
        private final int[] signs = new int[TEXT_MOST];
        private int size = 0;
        private int place = 0;
        private int guestCount = 0;
        private int wood = 0;
        private int reasons = 0;

        Reader() {
            for (int i = 0; i < GUESTS_MOST; i++) {
                guests[i] = new Guest();
            }
        }

        /** The FAULT, or NONE. */
        int read(Shelf texts, int t) {
            open(texts, t);
            skipBlanks();
            int fault = readWood();
            skipBlanks();
            // Every item takes a place at least, so there are no more items than places.
            for (int item = 0; item < TEXT_MOST && fault == NONE && sign() != END; item++) {
                fault = sign() == LETTER_FOLLOWS ? readReason() : readGuest();
                skipBlanks();
            }
            if (fault == NONE && guestCount < GUESTS_LEAST) {
                return size;
            }
            return fault;
        }

        int guests() {
            return guestCount;
        }

        Guest guestAt(int i) {
            return guests[i >= 0 && i < GUESTS_MOST ? i : 0];
        }

        int woodRead() {
            return wood;
        }

        int reasonsRead() {
            return reasons;
        }

        private void open(Shelf texts, int t) {
            size = Math.min(texts.size(t), TEXT_MOST);
            for (int i = 0; i < size; i++) {
                signs[i] = texts.get(t, i);
            }
            place = 0;
            guestCount = 0;
            wood = 0;
            reasons = 0;
        }

        private int readWood() {
            if (sign() != LETTER_WOOD) {
                return place;
            }
            place++;
            int from = place;
            int tens = figure(10);
            int ones = tens < 0 ? NONE : figure(10);
            if (ones < 0) {
                return place;
            }
            wood = 10 * tens + ones;
            return wood > WOOD_MOST ? from : NONE;
        }

        private int readReason() {
            place++;
            int from = figure(CLAIMS);
            int to = from < 0 ? NONE : figure(CLAIMS);
            if (to < 0) {
                return place;
            }
            if (from == to) {
                return place - 1;
            }
            reasons |= 1 << CLAIMS * to + from;
            return NONE;
        }

        private int readGuest() {
            int kind = kindOf(sign());
            if (kind < 0 || guestCount >= GUESTS_MOST) {
                return place;
            }
            place++;
            Guest next = guestAt(guestCount);
            next.be(kind);
            for (int claim = 0; claim < CLAIMS; claim++) {
                int weight = figure(10);
                if (weight < 0) {
                    return place;
                }
                next.weigh(claim, weight);
            }
            guestCount++;
            return NONE;
        }

        private int sign() {
            return place >= 0 && place < size ? signs[place] : END;
        }

        /** A figure below a limit, and on behind it; else NONE, and the place stays: it is the FAULT. */
        private int figure(int limit) {
            int figure = sign() - ZERO;
            if (figure < 0 || figure >= limit) {
                return NONE;
            }
            place++;
            return figure;
        }

        private void skipBlanks() {
            for (int i = 0; i < TEXT_MOST && sign() == BLANK; i++) {
                place++;
            }
        }

        private static int kindOf(int letter) {
            for (int kind = 0; kind < KINDS; kind++) {
                if (LETTERS[kind] == letter) {
                    return kind;
                }
            }
            return NONE;
        }
    }

    /**
     * One of a KIND, and what CLAIMS WEIGH to one. What FOLLOWS as told (reasons) comes as a
     * number: for each CLAIM four bits, the CLAIMS from which it FOLLOWS.
     */
    private static final class Guest {
        private final int[] weights = new int[CLAIMS];
        private int kind = GUEST;
        /** CLAIMS that one HOLDS: kept beside the weights, for talks ask for it most. */
        private int held = 0;

        void be(int newKind) {
            if (newKind >= 0 && newKind < KINDS) {
                kind = newKind;
                held = heldAs(kind);
            }
        }

        void beLike(Guest other, int newKind) {
            for (int claim = 0; claim < CLAIMS; claim++) {
                weights[claim] = other.weight(claim);
            }
            be(newKind);
        }

        void weigh(int claim, int weight) {
            if (!isClaim(claim)) {
                return;
            }
            weights[claim] = Math.max(0, Math.min(WEIGHT_MOST, weight));
            if (weights[claim] >= holdsFrom(kind)) {
                held |= 1 << claim;
            } else {
                held &= ~(1 << claim);
            }
        }

        int kind() {
            return kind;
        }

        int held() {
            return held;
        }

        int weight(int claim) {
            return isClaim(claim) ? weights[claim] : 0;
        }

        boolean holds(int claim) {
            return (held >> claim & 1) != 0;
        }

        int heldAs(int otherKind) {
            int set = 0;
            for (int claim = 0; claim < CLAIMS; claim++) {
                if (weights[claim] >= holdsFrom(otherKind)) {
                    set |= 1 << claim;
                }
            }
            return set;
        }

        boolean isOf(int otherKind) {
            return kind == otherKind || movedAs(kind) == otherKind;
        }

        /** By how much one would be MOVED, as if there were no bounds to what a CLAIM WEIGHS. */
        int moves(int claim, int reasons) {
            int plain = (reasons >> CLAIMS * claim & held) != 0 ? 2 : 1;
            switch (movedAs(kind)) {
                case BISHOP:
                    return plain == 1 ? 0 : plain;
                case ACTRESS:
                    return plain + 1;
                case MULE:
                    return holds(claim) ? plain : -1;
                default:
                    return plain;
            }
        }

        /** One HEARS a CLAIM; what it weighed ahead is answered, so that it can be taken back. */
        int hears(int claim, int reasons) {
            int was = weight(claim);
            weigh(claim, was + moves(claim, reasons));
            return was;
        }

        int unmoving(int reasons) {
            int n = 0;
            for (int claim = 0; claim < CLAIMS; claim++) {
                n += moves(claim, reasons) == 0 ? 1 : 0;
            }
            return n;
        }

        int movedByAll(int reasons) {
            int sum = 0;
            for (int claim = 0; claim < CLAIMS; claim++) {
                sum += moves(claim, reasons);
            }
            return sum;
        }

        private static int holdsFrom(int kind) {
            return kind >= 0 && kind < KINDS ? HOLDS_FROM[kind] : HOLDS_FROM[GUEST];
        }

        private static int movedAs(int kind) {
            return kind >= 0 && kind < KINDS ? MOVED_AS[kind] : GUEST;
        }
    }

    /** The HUT as it is: GUESTS, WOOD, who is UP, and the DEEDS by which it came to be so. */
    private static final class Hut {
        private static final int NOBODY = -1;

        private final Guest[] atFirst = new Guest[GUESTS_MOST];
        private final Guest[] guests = new Guest[GUESTS_MOST];
        private final int[] deeds = new int[DEEDS_MOST];
        private int guestCount = 0;
        private int woodAtFirst = 0;
        private int reasons = 0;
        private int wood = 0;
        private int first = NOBODY;
        private int second = NOBODY;
        private int deedCount = 0;

        Hut() {
            for (int i = 0; i < GUESTS_MOST; i++) {
                atFirst[i] = new Guest();
                guests[i] = new Guest();
            }
        }

        void open(Reader reader) {
            guestCount = Math.min(reader.guests(), GUESTS_MOST);
            woodAtFirst = reader.woodRead();
            reasons = reader.reasonsRead();
            for (int i = 0; i < guestCount; i++) {
                Guest told = reader.guestAt(i);
                atFirst[i].beLike(told, told.kind());
            }
            goBack(0);
        }

        /** Deeds from number n on are undone: the first n are done anew. */
        void goBack(int n) {
            for (int i = 0; i < guestCount; i++) {
                guests[i].beLike(atFirst[i], atFirst[i].kind());
            }
            wood = woodAtFirst;
            first = NOBODY;
            second = NOBODY;
            deedCount = Math.max(0, Math.min(n, DEEDS_MOST));
            for (int i = 0; i < deedCount; i++) {
                perform(deeds[i]);
            }
        }

        void keepIn(Shelf kept, int k) {
            kept.make(k, deedCount, 0);
            for (int i = 0; i < deedCount; i++) {
                kept.set(k, i, deeds[i]);
            }
        }

        void goOnFrom(Shelf kept, int k) {
            int n = Math.max(0, Math.min(kept.size(k), DEEDS_MOST));
            for (int i = 0; i < n; i++) {
                deeds[i] = kept.get(k, i);
            }
            goBack(n);
        }

        boolean hasPlace(int n) {
            return deedCount + n <= DEEDS_MOST;
        }

        void act(int deed) {
            if (deedCount >= 0 && deedCount < DEEDS_MOST) {
                deeds[deedCount] = deed;
                deedCount++;
                perform(deed);
            }
        }

        private void perform(int deed) {
            if (deed < SAYINGS) {
                hearer(deed).hears(deed % CLAIMS, reasons);
                wood--;
            } else if (deed == DEED_WOOD) {
                wood = woodAtFirst;
            } else {
                first = (deed - DEED_SEND) / GUESTS_MOST;
                second = (deed - DEED_SEND) % GUESTS_MOST;
            }
        }

        int guests() {
            return guestCount;
        }

        boolean isGuest(int i) {
            return i >= 0 && i < guestCount;
        }

        Guest guestAt(int i) {
            return guests[i >= 0 && i < GUESTS_MOST ? i : 0];
        }

        int told(int i, int what) {
            Guest one = guestAt(i);
            switch (what) {
                case 0:
                    return one.kind();
                case 5:
                    return one.held();
                case 6:
                    return i == first ? 1 : i == second ? 2 : 0;
                default:
                    return one.weight(what - 1);
            }
        }

        boolean someUp() {
            return first != NOBODY;
        }

        boolean areUp(int i, int j) {
            return first == i && second == j;
        }

        int whoIsUp() {
            return someUp() ? 10 * first + second : 0;
        }

        int firstUp() {
            return first;
        }

        int secondUp() {
            return second;
        }

        Guest hearer(int saying) {
            return guestAt(saying < CLAIMS ? second : first);
        }

        /** Whether it can be said, WOOD aside. */
        boolean canSay(int saying) {
            return someUp() && guestAt(saying < CLAIMS ? first : second).holds(saying % CLAIMS);
        }

        int shared() {
            return someUp() ? guestAt(first).held() & guestAt(second).held() : 0;
        }

        int woodLeft() {
            return wood;
        }

        int woodAtFirst() {
            return woodAtFirst;
        }

        int deeds() {
            return deedCount;
        }

        int sayingsDone() {
            int n = 0;
            for (int i = 0; i < deedCount; i++) {
                n += deeds[i] < SAYINGS ? 1 : 0;
            }
            return n;
        }

        int reasons() {
            return reasons;
        }

        /** A set of CLAIMS with all that FOLLOWS from them. */
        int closed(int set) {
            int all = set;
            // A way from one CLAIM to another one has fewer steps than there are CLAIMS.
            for (int step = 1; step < CLAIMS; step++) {
                for (int claim = 0; claim < CLAIMS; claim++) {
                    if ((reasons >> CLAIMS * claim & all & ALL_CLAIMS) != 0) {
                        all |= 1 << claim;
                    }
                }
            }
            return all;
        }

        int heldByAll() {
            int set = guestCount == 0 ? 0 : ALL_CLAIMS;
            for (int i = 0; i < guestCount; i++) {
                set &= guests[i].held();
            }
            return set;
        }

        int bishops() {
            int n = 0;
            for (int i = 0; i < guestCount; i++) {
                n += guests[i].isOf(BISHOP) ? 1 : 0;
            }
            return n;
        }
    }

    /** Two, as if they were UP, and what they could say to one another: nothing comes of it. */
    private static final class Talks {
        private final Guest one = new Guest();
        private final Guest two = new Guest();
        private int reasons = 0;

        private final int[] said = new int[SOUGHT_MOST];
        private int wanted = 0;
        private long talksFound = 0;
        private int inAll = 0;

        private final int[] script = new int[HEARD_MOST];
        private int scriptSize = 0;
        private int unheard = 0;
        private final long[] chances = new long[ALL_CLAIMS + 1];

        void between(Guest first, Guest second, int newReasons) {
            one.beLike(first, first.kind());
            two.beLike(second, second.kind());
            reasons = newReasons;
        }

        boolean canSay(int saying) {
            return isSaying(saying) && (saying < CLAIMS ? one : two).holds(saying % CLAIMS);
        }

        int sayable() {
            return one.held() | two.held() << CLAIMS;
        }

        int shared() {
            return one.held() & two.held();
        }

        int unshared() {
            return one.held() ^ two.held();
        }

        /**
         * SAYINGS (bits) that can be, of a CLAIM that who HEARS it does not HOLD. The others are
         * idle: one who HOLDS a CLAIM goes on HOLDING it, and nothing hangs on how much it WEIGHS
         * then. So searches need not try them one by one.
         */
        private int turning() {
            return one.held() & ~two.held() | (two.held() & ~one.held()) << CLAIMS;
        }

        private int idle() {
            return 2 * Integer.bitCount(shared());
        }

        /** What the CLAIM weighed ahead to who HEARD it. */
        int utter(int saying) {
            return (saying < CLAIMS ? two : one).hears(saying % CLAIMS, reasons);
        }

        void takeBack(int saying, int weighed) {
            (saying < CLAIMS ? two : one).weigh(saying % CLAIMS, weighed);
        }

        /** The fewest SAYINGS behind which both AGREE and HOLD some CLAIMS; NONE: more than most. */
        int fewest(int claims, int most) {
            wanted = claims;
            for (int n = 0; n <= most && n <= SOUGHT_MOST; n++) {
                if (reaches(this, 0, n)) {
                    return n;
                }
            }
            return NONE;
        }

        int said(int i) {
            return i >= 0 && i < SOUGHT_MOST ? said[i] : 0;
        }

        private static boolean reaches(Talks talks, int depth, int n) {
            if (depth >= n || depth >= SOUGHT_MOST) {
                return talks.unshared() == 0 && (talks.shared() & talks.wanted) == talks.wanted;
            }
            // An idle SAYING is in no shortest TALK.
            int turning = talks.turning();
            for (int saying = 0; saying < SAYINGS; saying++) {
                if ((turning >> saying & 1) != 0) {
                    int weighed = talks.utter(saying);
                    talks.said[depth] = saying;
                    boolean reached = reaches(talks, depth + 1, n);
                    talks.takeBack(saying, weighed);
                    if (reached) {
                        return true;
                    }
                }
            }
            return false;
        }

        /** How many TALKS of n SAYINGS there are behind which both HOLD all of some CLAIMS. */
        long talksTo(int claims, int n) {
            wanted = claims;
            talksFound = 0;
            inAll = ALL_CLAIMS;
            tryAll(this, Math.min(n, SOUGHT_MOST), 1);
            return talksFound;
        }

        /** CLAIMS that both HOLD behind all TALKS found; 0: there are none. */
        int alwaysShared() {
            return talksFound == 0 ? 0 : inAll;
        }

        private static void tryAll(Talks talks, int left, long times) {
            if (left <= 0) {
                talks.arrive(times);
                return;
            }
            if (talks.idle() > 0) {
                tryAll(talks, left - 1, times * talks.idle());
            }
            int turning = talks.turning();
            for (int saying = 0; saying < SAYINGS; saying++) {
                if ((turning >> saying & 1) != 0) {
                    int weighed = talks.utter(saying);
                    tryAll(talks, left - 1, times);
                    talks.takeBack(saying, weighed);
                }
            }
        }

        private void arrive(long times) {
            if ((shared() & wanted) == wanted) {
                talksFound += times;
                inAll &= shared();
            }
        }

        int duelled(int n) {
            return bestFor(this, Math.min(n, SOUGHT_MOST), true);
        }

        private static int bestFor(Talks talks, int left, boolean wantsMany) {
            if (left <= 0) {
                return Integer.bitCount(talks.shared());
            }
            int best = talks.idle() > 0 ? bestFor(talks, left - 1, !wantsMany) : NONE;
            int turning = talks.turning();
            for (int saying = 0; saying < SAYINGS; saying++) {
                if ((turning >> saying & 1) != 0) {
                    int weighed = talks.utter(saying);
                    int comes = bestFor(talks, left - 1, !wantsMany);
                    talks.takeBack(saying, weighed);
                    if (best == NONE || (wantsMany ? comes > best : comes < best)) {
                        best = comes;
                    }
                }
            }
            // Where nothing can be said, nobody HOLDS a CLAIM, in the turns that are left, too.
            return best == NONE ? 0 : best;
        }

        /** Goes through a TALK of a ROW of which each SAYING is not heard by p of twelve. */
        void hearSome(Shelf rows, int r, int p) {
            scriptSize = Math.max(0, Math.min(rows.size(r), HEARD_MOST));
            for (int i = 0; i < scriptSize; i++) {
                script[i] = rows.get(r, i);
            }
            unheard = Math.max(0, Math.min(p, TWELVE));
            for (int set = 0; set <= ALL_CLAIMS; set++) {
                chances[set] = 0;
            }
            branch(this, 0, 1);
        }

        private static void branch(Talks talks, int place, long chance) {
            if (place >= talks.scriptSize || place >= HEARD_MOST) {
                talks.chances[talks.shared() & ALL_CLAIMS] += chance;
                return;
            }
            int saying = talks.script[place];
            if (!talks.canSay(saying)) {
                branch(talks, place + 1, chance * TWELVE);
                return;
            }
            branch(talks, place + 1, chance * talks.unheard);
            int weighed = talks.utter(saying);
            branch(talks, place + 1, chance * (TWELVE - talks.unheard));
            talks.takeBack(saying, weighed);
        }

        /** Chances that both HOLD a CLAIM, of as many as all chances are. */
        long chancesOf(int claim) {
            long sum = 0;
            for (int set = 0; set <= ALL_CLAIMS; set++) {
                sum += (set >> claim & 1) != 0 ? chances[set] : 0;
            }
            return sum;
        }

        long allChances() {
            long sum = 0;
            for (int set = 0; set <= ALL_CLAIMS; set++) {
                sum += chances[set];
            }
            return sum;
        }
    }
}
