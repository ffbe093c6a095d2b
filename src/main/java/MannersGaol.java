/** A prison of manners, as ../shared/DOC.md tells it; README.md says how to use it. */
public final class MannersGaol {
    public static final int BAD = -1, FULL = -2, NONE = -3;

    private static final int NOTHING_THERE = -11, PLACE_OUTSIDE = -12, OTHER_SORT = -13;
    private static final int SIZE_BELOW_0 = -14, PARTED_BY_0 = -15, NO_ROW = -9;

    private static final int MOST_INMATES = 8, ROOMS = 8, OUT = 8, KINDS = 6, NOBODY = -1;
    private static final int INMATE = 0, BURGLAR = 1, DUELLIST = 2, FORGER = 3, NUN = 4, CHILD = 5;
    /** The KIND above each KIND. */
    private static final int[] ABOVE = {-1, INMATE, INMATE, BURGLAR, DUELLIST, INMATE};

    private static final int STRICT = 0, EASE = 1, DUE = 2, SNEEZE = 3, LAWS = 4;
    private static final int[] FIRST_LAWS = {2, 3, 2, 20};
    private static final int[] TOP_LAWS = {9, 9, 9, 99};
    private static final int FIRST_RITE = 10, FIRST_GRACE = 5, TOP_RITE = 99, TOP_GRACE = 99;

    /** The last OCCASION looked at; LATE stands for "not by then", which is later than all. */
    private static final int LAST = 60, LATE = 61;
    private static final int TOP_FOR = 40, TOP_LUCK = 30;

    private static final int TAPE_BYTES = 200, TAPE_FAULT = -100;
    private static final int MOST_ROWS = 10, ROW_PARTS = 3;
    private static final int SHEETS = 4, SHEET_ITEMS = 40, SORTS = 4, MISSING = -1, BYTES = 0, SHORTS = 1;
    private static final int SHELVES = 4, ROW_AS = 10;
    private static final int HOLDS_INMATE = 0, HOLDS_ROW = 1, HOLDS_NOTHING = 2;
    private static final int ACTS = 4, BOWS = 0, THANKS = 1, PARTS = 2, MOST_BODIES = 30;
    /** The body that a thing of a KIND runs for each ACT: bows, thanks, parts, leaves. */
    private static final int[] OWN_BODIES = {
        10, 11, 12, 13,
        10, 20, 12, 13,
        30, 11, 12, 31,
        51, 20, 50, 13,
        40, 41, 12, 31,
        10, 11, 61, 60};

    private final Gaol now = new Gaol();
    /** Where all that is only TRIED goes on; filled anew for each try, so that no call makes objects. */
    private final Gaol tried = new Gaol();
    private final Gaol kept = new Gaol();
    private boolean isKept = false;
    private final Text tape = new Text();
    private final int[] rows = new int[MOST_ROWS * ROW_PARTS];
    private int rowCount = 0;
    private final Sheet[] sheets = new Sheet[SHEETS];
    private final Shelf[] shelves = new Shelf[SHELVES];
    private final Deed deed = new Deed();

    public MannersGaol() {
        for (int i = 0; i < SHEETS; i++) {
            sheets[i] = new Sheet();
        }
        for (int i = 0; i < SHELVES; i++) {
            shelves[i] = new Shelf();
        }
    }

    // ---- THE TAPE ----

    public int feed(long eight, int n) {
        if (n < 1 || n > 8) {
            return BAD;
        }
        if (tape.size + n > TAPE_BYTES) {
            return FULL;
        }
        for (int i = 0; i < n; i++) {
            tape.add((int) (eight >>> (8 * i)) & 255);
        }
        return tape.size;
    }

    public int gaol() {
        tried.becomeFirst();
        int fault = tape.read(tried);
        tape.size = 0;
        if (fault >= 0) {
            return TAPE_FAULT - fault;
        }
        tried.z = now.z;
        now.copy(tried);
        rowCount = 0;
        return now.count;
    }

    // ---- LAWS, INMATES, ROOMS ----

    public int set(int law, int v) {
        if (!isLaw(law) || !isWithin(v, TOP_LAWS[law])) {
            return BAD;
        }
        int was = now.laws[law];
        now.laws[law] = v;
        return was;
    }

    public int lawOf(int law) {
        return isLaw(law) ? now.laws[law] : BAD;
    }

    public int inmate(int kind, int grace, int room) {
        if (!isKind(kind) || !isWithin(grace, TOP_GRACE) || !isRoom(room)) {
            return BAD;
        }
        if (now.count >= MOST_INMATES) {
            return FULL;
        }
        now.add(kind, grace, room);
        return now.count - 1;
    }

    public int of(int inmate, int what) {
        if (!now.has(inmate)) {
            return BAD;
        }
        switch (what) {
            case 0: return now.kinds[inmate];
            case 1: return now.graces[inmate];
            case 2: return now.rooms[inmate];
            case 3: return now.hosts[inmate] + 1;
            case 4: return now.isHeld(inmate) ? 1 : 0;
            default: return BAD;
        }
    }

    public int does(int inmate, int what) {
        if (!now.has(inmate)) {
            return BAD;
        }
        switch (what) {
            case 0: return now.isOut(inmate) ? NONE : 1000 + now.needs(inmate);
            case 1: return 1000 + now.pays(inmate);
            case 2: return 1000 + now.gains(inmate);
            default: return BAD;
        }
    }

    public int mind(int inmate, int kind) {
        if (!now.has(inmate) || !isKind(kind)) {
            return BAD;
        }
        int was = now.kinds[inmate];
        now.kinds[inmate] = kind;
        return was;
    }

    public int grace(int inmate, int v) {
        if (!now.has(inmate) || !isWithin(v, TOP_GRACE)) {
            return BAD;
        }
        int was = now.graces[inmate];
        now.graces[inmate] = v;
        return was;
    }

    public int bring(int inmate, int room) {
        if (!now.has(inmate) || !isRoomOrOut(room)) {
            return BAD;
        }
        int was = now.rooms[inmate];
        now.rooms[inmate] = room;
        return was;
    }

    public int await(int inmate, int other) {
        if (!now.has(inmate) || !now.has(other) || inmate == other) {
            return BAD;
        }
        int was = now.hosts[inmate];
        now.hosts[inmate] = other;
        return was == other ? 1 : 0;
    }

    public int excuse(int inmate) {
        if (!now.has(inmate)) {
            return BAD;
        }
        int was = now.hosts[inmate];
        now.hosts[inmate] = NOBODY;
        return was == NOBODY ? 0 : 1;
    }

    public int rite(int room, int v) {
        if (!isRoom(room) || !isWithin(v, TOP_RITE)) {
            return BAD;
        }
        int was = now.rites[room];
        now.rites[room] = v;
        return was;
    }

    public int room(int room, int what) {
        if (!isRoom(room)) {
            return BAD;
        }
        switch (what) {
            case 0: return now.rites[room];
            case 1: return now.thoseIn(room);
            default: return BAD;
        }
    }

    // ---- OCCASIONS ----

    public int occasions(int n) {
        if (n < 1 || n > LAST) {
            return BAD;
        }
        now.passOccasions(n);
        return now.countOut();
    }

    public int seed(int v) {
        int was = now.z;
        now.z = v;
        return was;
    }

    public int occasion() {
        now.passByDraws();
        return now.countOut();
    }

    public int luck(int n) {
        if (n < 1 || n > TOP_LUCK) {
            return BAD;
        }
        tried.copy(now);
        tried.passOccasions(1);
        int plain = tried.countOut();
        int lucky = 0;
        int z = now.z;
        for (int i = 0; i < n; i++) {
            tried.copy(now);
            tried.z = z;
            tried.passByDraws();
            z = tried.z;
            if (tried.countOut() > plain) {
                lucky++;
            }
        }
        return lucky;
    }

    public int state(int what) {
        switch (what) {
            case 0: return now.occasion;
            case 1: return now.thoseIn(OUT);
            case 2: return now.thoseHeld();
            case 3: return now.allGrace();
            case 4: return now.crowd();
            case 5: return now.allRites();
            default: return BAD;
        }
    }

    // ---- what is TRIED ----

    public int where(int inmate, int n) {
        if (!now.has(inmate) || !isWithin(n, LAST)) {
            return BAD;
        }
        tried.copy(now);
        tried.passOccasions(n);
        return tried.rooms[inmate];
    }

    public int leaves(int inmate) {
        if (!now.has(inmate)) {
            return BAD;
        }
        return noneIfLate(timeNow(inmate));
    }

    public int empty() {
        tried.copy(now);
        for (int t = 0; t <= LAST; t++) {
            if (tried.countOut() == tried.count) {
                return t;
            }
            tried.passOccasions(1);
        }
        return NONE;
    }

    public int passes(int inmate, int room) {
        if (!now.has(inmate) || !isRoomOrOut(room)) {
            return BAD;
        }
        tried.copy(now);
        return noneIfLate(tried.timeTo(inmate, room, LAST));
    }

    public int knot(int inmate) {
        return now.has(inmate) ? now.ringFrom(inmate) : BAD;
    }

    public int rudeFor(int inmate, int n) {
        if (!now.has(inmate) || !isWithin(n, TOP_FOR)) {
            return BAD;
        }
        int waiting = now.thoseWaiting();
        for (int size = 0; size <= MOST_INMATES; size++) {
            for (int rude = 0; rude <= waiting; rude++) {
                // One that waits for nobody is in no smallest set.
                boolean counts = (rude & ~waiting) == 0 && Integer.bitCount(rude) == size;
                if (counts && isOutIfRude(inmate, n, rude)) {
                    return rude;
                }
            }
        }
        return NONE;
    }

    public int graceFor(int inmate, int n) {
        if (!now.has(inmate) || !isWithin(n, TOP_FOR)) {
            return BAD;
        }
        for (int v = 0; v <= TOP_GRACE; v++) {
            tried.copy(now);
            tried.graces[inmate] = v;
            if (tried.timeTo(inmate, OUT, n) != LATE) {
                return v;
            }
        }
        return NONE;
    }

    public int kindFor(int inmate) {
        if (!now.has(inmate)) {
            return BAD;
        }
        int best = 0;
        int soonest = LATE;
        for (int kind = 0; kind < KINDS; kind++) {
            tried.copy(now);
            tried.kinds[inmate] = kind;
            int time = tried.timeTo(inmate, OUT, LAST);
            if (time < soonest) {
                soonest = time;
                best = kind;
            }
        }
        return best;
    }

    public int riteFor(int inmate) {
        if (!now.has(inmate)) {
            return BAD;
        }
        int best = NONE;
        int soonest = timeNow(inmate);
        for (int room = 0; room < ROOMS; room++) {
            tried.copy(now);
            tried.rites[room] = 0;
            int time = tried.timeTo(inmate, OUT, LAST);
            if (time < soonest) {
                soonest = time;
                best = room;
            }
        }
        return best;
    }

    public int hostFor(int inmate) {
        if (!now.has(inmate)) {
            return BAD;
        }
        int best = NONE;
        int latest = timeNow(inmate);
        for (int host = 0; host < now.count; host++) {
            if (host != inmate) {
                tried.copy(now);
                tried.hosts[inmate] = host;
                int time = tried.timeTo(inmate, OUT, LAST);
                if (time > latest) {
                    latest = time;
                    best = host;
                }
            }
        }
        return best;
    }

    public int fits(int sheet, int inmate, int what) {
        if (!isSheet(sheet) || !now.has(inmate) || what < 0 || what > 1) {
            return BAD;
        }
        if (sheets[sheet].sort == MISSING) {
            return NOTHING_THERE;
        }
        int fitting = 0;
        int least = NONE;
        for (int v = TOP_GRACE; v >= 0; v--) {
            if (isFitting(sheets[sheet], inmate, v)) {
                fitting++;
                least = v;
            }
        }
        return what == 0 ? fitting : least;
    }

    // ---- odds of sneezes ----

    public long odds(int n, int k, int part) {
        if (n < 0 || n > 8 || k < 0 || k > n || part < 0 || part > 1) {
            return BAD;
        }
        long above = 1;
        long below = 1;
        int sneeze = now.laws[SNEEZE];
        for (int i = 1; i <= n; i++) {
            above *= i <= k ? sneeze : 100 - sneeze;
            below *= 100;
        }
        return partOf(above * ways(n, k), below, part);
    }

    public long hope(int n, int part) {
        if (n < 0 || n > 99 || part < 0 || part > 1) {
            return BAD;
        }
        return partOf((long) n * now.laws[SNEEZE], 100, part);
    }

    // ---- ROWS ----

    public int prove(int inmate, int n) {
        if (!now.has(inmate) || n < 1 || n > MOST_ROWS) {
            return BAD;
        }
        tried.copy(now);
        for (int i = 0; i < n; i++) {
            tried.passOccasions(1);
            for (int what = 0; what < ROW_PARTS; what++) {
                rows[i * ROW_PARTS + what] = tried.rowPart(inmate, what);
            }
        }
        rowCount = n;
        return n;
    }

    public int row(int i, int what) {
        return isRowPart(i, what) ? rows[i * ROW_PARTS + what] : NO_ROW;
    }

    public int alterRow(int i, int what, int v) {
        if (!isRowPart(i, what)) {
            return NO_ROW;
        }
        int was = rows[i * ROW_PARTS + what];
        rows[i * ROW_PARTS + what] = v;
        return was;
    }

    public int judge(int inmate) {
        if (!now.has(inmate)) {
            return BAD;
        }
        tried.copy(now);
        for (int i = 0; i < rowCount; i++) {
            tried.passOccasions(1);
            for (int what = 0; what < ROW_PARTS; what++) {
                if (rows[i * ROW_PARTS + what] != tried.rowPart(inmate, what)) {
                    return i + 1;
                }
            }
        }
        return 0;
    }

    // ---- SHEETS ----

    public int minds(int sheet, int i, int inmate, int n) {
        if (!isSheet(sheet) || !now.has(inmate) || !isWithin(n, MOST_INMATES) || inmate + n > now.count) {
            return BAD;
        }
        Sheet from = sheets[sheet];
        if (from.sort == MISSING) {
            return NOTHING_THERE;
        }
        if (from.sort != BYTES) {
            return OTHER_SORT;
        }
        if (i < 0 || i > from.size || n > from.size - i) {
            return PLACE_OUTSIDE;
        }
        for (int k = 0; k < n; k++) {
            now.graces[inmate + k] = heldGrace(from.items[i + k]);
        }
        return n;
    }

    public int sheet(int sheet, int sort, int n) {
        if (!isSheet(sheet) || sort < MISSING || sort >= SORTS) {
            return BAD;
        }
        if (sort == MISSING) {
            sheets[sheet].become(MISSING, 0);
            return 1;
        }
        if (n > SHEET_ITEMS) {
            return BAD;
        }
        if (n < 0) {
            return SIZE_BELOW_0;
        }
        sheets[sheet].become(sort, n);
        return 1;
    }

    public int put(int sheet, int i, int v) {
        if (!isSheet(sheet)) {
            return BAD;
        }
        Sheet to = sheets[sheet];
        if (to.sort == MISSING) {
            return NOTHING_THERE;
        }
        if (i < 0 || i >= to.size) {
            return PLACE_OUTSIDE;
        }
        to.items[i] = to.narrowed(v);
        return 1;
    }

    public int item(int sheet, int sort, int i) {
        if (!isSheet(sheet) || sort < 0 || sort >= SORTS) {
            return BAD;
        }
        Sheet from = sheets[sheet];
        if (from.sort == MISSING) {
            return NOTHING_THERE;
        }
        if (from.sort != sort) {
            return OTHER_SORT;
        }
        if (i < 0 || i >= from.size) {
            return PLACE_OUTSIDE;
        }
        return from.items[i];
    }

    // ---- SHELVES and ACTS ----

    public int shelf(int shelf, int what, int n) {
        if (!isShelf(shelf)) {
            return BAD;
        }
        Shelf to = shelves[shelf];
        switch (what) {
            case HOLDS_INMATE:
                if (!now.has(n)) {
                    return BAD;
                }
                to.holdInmate(n);
                return 1;
            case HOLDS_ROW:
                if (!isSheet(n)) {
                    return BAD;
                }
                to.holdRow(sheets[n]);
                return 1;
            case HOLDS_NOTHING:
                to.holds = HOLDS_NOTHING;
                return 1;
            default:
                return BAD;
        }
    }

    public int taken(int shelf, int as) {
        boolean asRow = as >= ROW_AS && as < ROW_AS + SORTS;
        if (!isShelf(shelf) || !asRow && !isKind(as)) {
            return BAD;
        }
        Shelf from = shelves[shelf];
        int holds = heldBy(from);
        if (holds == HOLDS_NOTHING) {
            return NOTHING_THERE;
        }
        if (asRow) {
            return holds == HOLDS_ROW && from.sort == as - ROW_AS ? from.size : OTHER_SORT;
        }
        boolean isSuch = holds == HOLDS_INMATE && isUnder(now.kinds[from.inmate], as);
        return isSuch ? from.inmate : OTHER_SORT;
    }

    public int act(int shelf, int act, int x) {
        deed.ran = 0;
        if (!isShelf(shelf) || act < 0 || act >= ACTS || heldBy(shelves[shelf]) != HOLDS_INMATE) {
            return 0;
        }
        int n = shelves[shelf].inmate;
        deed.begin(now.kinds[n], n, now.rooms[n]);
        int answer = run(deed, deed.own(act), x, 0);
        return deed.isStuck ? PARTED_BY_0 : answer;
    }

    public int trace(int i) {
        return i >= 0 && i < deed.ran ? deed.bodies[i] : NONE;
    }

    public int many(int what) {
        switch (what) {
            case 0: return now.count;
            case 1: return now.countOut();
            case 2: return Integer.bitCount(now.thoseWaiting());
            case 3: return Integer.bitCount(now.thoseHeld());
            case 4: return rowCount;
            case 5: return tape.size;
            case 6: return deed.ran;
            default: return BAD;
        }
    }

    // ---- gaols kept ----

    public int keep() {
        kept.copy(now);
        isKept = true;
        return 1;
    }

    public int again() {
        if (!isKept) {
            return NONE;
        }
        now.copy(kept);
        return now.count;
    }

    // ---- what several calls ask ----

    private static boolean isWithin(int v, int top) {
        return v >= 0 && v <= top;
    }

    private static boolean isLaw(int law) {
        return law >= 0 && law < LAWS;
    }

    private static boolean isKind(int kind) {
        return kind >= 0 && kind < KINDS;
    }

    private static boolean isRoom(int room) {
        return room >= 0 && room < ROOMS;
    }

    private static boolean isRoomOrOut(int room) {
        return room >= 0 && room <= OUT;
    }

    private static boolean isSheet(int sheet) {
        return sheet >= 0 && sheet < SHEETS;
    }

    private static boolean isShelf(int shelf) {
        return shelf >= 0 && shelf < SHELVES;
    }

    private boolean isRowPart(int i, int what) {
        return i >= 0 && i < rowCount && what >= 0 && what < ROW_PARTS;
    }

    private static boolean isUnder(int kind, int as) {
        int above = kind;
        for (int i = 0; i < KINDS && isKind(above); i++) {
            if (above == as) {
                return true;
            }
            above = ABOVE[above];
        }
        return false;
    }

    private static int heldGrace(int v) {
        return Math.max(0, Math.min(TOP_GRACE, v));
    }

    private static int noneIfLate(int time) {
        return time == LATE ? NONE : time;
    }

    private int timeNow(int inmate) {
        tried.copy(now);
        return tried.timeTo(inmate, OUT, LAST);
    }

    private boolean isOutIfRude(int inmate, int n, int rude) {
        tried.copy(now);
        for (int i = 0; i < tried.count; i++) {
            if ((rude >> i & 1) == 1) {
                tried.hosts[i] = NOBODY;
            }
        }
        return tried.timeTo(inmate, OUT, n) != LATE;
    }

    private boolean isFitting(Sheet told, int inmate, int grace) {
        tried.copy(now);
        tried.graces[inmate] = grace;
        for (int i = 0; i < told.size; i++) {
            tried.passOccasions(1);
            int room = told.items[i];
            if (room != -1 && room != tried.rooms[inmate]) {
                return false;
            }
        }
        return true;
    }

    private static long ways(int n, int k) {
        long ways = 1;
        for (int i = 1; i <= k; i++) {
            ways = ways * (n - k + i) / i;
        }
        return ways;
    }

    private static long partOf(long above, long below, int part) {
        long divisor = below;
        long rest = above;
        for (int i = 0; i < 200 && rest != 0; i++) {
            long next = divisor % rest;
            divisor = rest;
            rest = next;
        }
        if (divisor == 0) {
            return 0;
        }
        return part == 0 ? above / divisor : below / divisor;
    }

    /** What a SHELF holds at this time: the one that it held may be there no more. */
    private int heldBy(Shelf shelf) {
        boolean isGone = shelf.holds == HOLDS_INMATE && !now.has(shelf.inmate);
        return isGone ? HOLDS_NOTHING : shelf.holds;
    }

    /** Runs one body of the document by its number; "super" is a body's number, other ACTS are the KIND's own. */
    private static int run(Deed deed, int body, int x, int depth) {
        // What is stuck answers PARTED_BY_0 and nothing else: no body begins any more.
        if (deed.isStuck || depth >= MOST_BODIES) {
            return 0;
        }
        deed.mark(body);
        int deeper = depth + 1;
        switch (body) {
            case 10: return x * 4 - deed.n;
            case 11: return run(deed, deed.own(BOWS), x, deeper) + deed.a;
            case 12: return deed.parted(x);
            case 13: return run(deed, deed.own(THANKS), x, deeper) ^ 180;
            case 20: return run(deed, 11, x, deeper) * 2;
            case 30: return run(deed, 10, x, deeper) ^ 1;
            case 31: return run(deed, 13, x, deeper) + run(deed, deed.own(PARTS), deed.n, deeper);
            case 40: return 0 - run(deed, 30, x, deeper);
            case 41: return run(deed, 11, x, deeper) - run(deed, deed.own(BOWS), deed.a, deeper);
            case 50: return run(deed, 12, x * 3, deeper) - 1;
            case 51: return run(deed, 10, x, deeper) + 8;
            case 60: return run(deed, 13, x, deeper) - x;
            case 61: return run(deed, 12, x, deeper) + run(deed, deed.own(BOWS), deed.n, deeper);
            default: return 0;
        }
    }

    /** All that is kept: LAWS, OCCASION, z, ROOMS and INMATES. */
    private static final class Gaol {
        final int[] laws = new int[LAWS];
        final int[] rites = new int[ROOMS];
        final int[] kinds = new int[MOST_INMATES];
        final int[] graces = new int[MOST_INMATES];
        final int[] rooms = new int[MOST_INMATES];
        final int[] hosts = new int[MOST_INMATES];
        int count = 0;
        int occasion = 0;
        int z = 1;

        Gaol() {
            becomeFirst();
        }

        /** Leaves z, which a text leaves too. */
        void becomeFirst() {
            System.arraycopy(FIRST_LAWS, 0, laws, 0, LAWS);
            for (int i = 0; i < ROOMS; i++) {
                rites[i] = FIRST_RITE;
            }
            count = 0;
            occasion = 0;
        }

        void copy(Gaol from) {
            System.arraycopy(from.laws, 0, laws, 0, LAWS);
            System.arraycopy(from.rites, 0, rites, 0, ROOMS);
            System.arraycopy(from.kinds, 0, kinds, 0, MOST_INMATES);
            System.arraycopy(from.graces, 0, graces, 0, MOST_INMATES);
            System.arraycopy(from.rooms, 0, rooms, 0, MOST_INMATES);
            System.arraycopy(from.hosts, 0, hosts, 0, MOST_INMATES);
            count = from.count;
            occasion = from.occasion;
            z = from.z;
        }

        void add(int kind, int grace, int room) {
            if (count >= MOST_INMATES) {
                return;
            }
            kinds[count] = kind;
            graces[count] = grace;
            rooms[count] = room;
            hosts[count] = NOBODY;
            count++;
        }

        boolean has(int i) {
            return i >= 0 && i < count;
        }

        boolean isOut(int i) {
            return rooms[i] == OUT;
        }

        boolean isHeld(int i) {
            return !isOut(i) && has(hosts[i]) && rooms[hosts[i]] == rooms[i];
        }

        int riteAt(int i) {
            int room = rooms[i];
            return room >= 0 && room < ROOMS ? rites[room] : 0;
        }

        int needs(int i) {
            int rite = riteAt(i);
            switch (kinds[i]) {
                case BURGLAR: return rite + laws[STRICT];
                case FORGER: return rite + laws[STRICT] - graces[i] / 10;
                case DUELLIST: return rite / 2;
                case NUN: return rite / 2 + Integer.bitCount(thoseIn(rooms[i])) - 1;
                case CHILD: return occasion % 2 == 0 ? rite : 0;
                default: return rite;
            }
        }

        int pays(int i) {
            int due = laws[DUE];
            switch (kinds[i]) {
                case BURGLAR: return due + 1;
                case FORGER: return (due + 1) * 2;
                case DUELLIST: return due - 3;
                case NUN: return due - 3 - due;
                case CHILD: return 0;
                default: return due;
            }
        }

        int gains(int i) {
            int ease = laws[EASE];
            switch (kinds[i]) {
                case FORGER: return ease - 1;
                case DUELLIST: return ease + 2;
                case NUN: return ease + 2 + laws[STRICT];
                case CHILD: return ease * 2;
                default: return ease;
            }
        }

        void passOccasions(int n) {
            for (int t = 0; t < n; t++) {
                for (int i = 0; i < count; i++) {
                    if (!isOut(i)) {
                        takeTurn(i);
                    }
                }
                occasion++;
            }
        }

        void takeTurn(int i) {
            if (!isHeld(i) && graces[i] >= needs(i)) {
                rooms[i]++;
                graces[i] = heldGrace(graces[i] - pays(i));
            } else {
                graces[i] = heldGrace(graces[i] + gains(i));
            }
        }

        void passByDraws() {
            if (count > 0) {
                int one = draw() % count;
                int chance = draw() % 100;
                if (chance < laws[SNEEZE] && !isOut(one)) {
                    rooms[one]++;
                }
            }
            passOccasions(1);
        }

        int draw() {
            z = z * 1103515245 + 12345;
            return z >>> 16;
        }

        /**
         * The fewest OCCASIONS (up to last) behind which one is in a ROOM or farther, or LATE; all goes on meanwhile.
         * Nobody goes back, so one that is OUT by then is OUT behind last OCCASIONS, too.
         */
        int timeTo(int i, int room, int last) {
            for (int t = 0; t <= last; t++) {
                if (rooms[i] >= room) {
                    return t;
                }
                passOccasions(1);
            }
            return LATE;
        }

        int rowPart(int i, int what) {
            switch (what) {
                case 0: return rooms[i];
                case 1: return graces[i];
                default: return thoseIn(OUT);
            }
        }

        int thoseIn(int room) {
            int set = 0;
            for (int i = 0; i < count; i++) {
                if (rooms[i] == room) {
                    set |= 1 << i;
                }
            }
            return set;
        }

        int countOut() {
            return Integer.bitCount(thoseIn(OUT));
        }

        int thoseHeld() {
            int set = 0;
            for (int i = 0; i < count; i++) {
                if (isHeld(i)) {
                    set |= 1 << i;
                }
            }
            return set;
        }

        int thoseWaiting() {
            int set = 0;
            for (int i = 0; i < count; i++) {
                if (hosts[i] != NOBODY) {
                    set |= 1 << i;
                }
            }
            return set;
        }

        int ringFrom(int i) {
            int one = i;
            // Behind as many steps as there are INMATES one is in the ring, if there is one.
            for (int step = 0; step < MOST_INMATES && has(one); step++) {
                one = hosts[one];
            }
            int ring = 0;
            for (int step = 0; step < MOST_INMATES && has(one); step++) {
                ring |= 1 << one;
                one = hosts[one];
            }
            return ring;
        }

        int allGrace() {
            int sum = 0;
            for (int i = 0; i < count; i++) {
                sum += graces[i];
            }
            return sum;
        }

        int allRites() {
            int sum = 0;
            for (int i = 0; i < ROOMS; i++) {
                sum += rites[i];
            }
            return sum;
        }

        int crowd() {
            int crowd = OUT;
            int most = 0;
            for (int room = 0; room < ROOMS; room++) {
                int there = Integer.bitCount(thoseIn(room));
                if (there > most) {
                    most = there;
                    crowd = room;
                }
            }
            return crowd;
        }
    }

    /** THE TAPE, and the reading of it as a TEXT. */
    private static final class Text {
        static final int END = 0, NAME = 1, NUMBER = 2, SIGN = 3;
        static final int NO_FAULT = -1, DIGITS = 3;

        final int[] bytes = new int[TAPE_BYTES];
        int size = 0;
        /** The token at hand: its sort, its first byte's place, the place behind it, its number. */
        int sort = END;
        int start = 0;
        int stop = 0;
        int value = 0;
        int fault = NO_FAULT;

        void add(int b) {
            if (size < TAPE_BYTES) {
                bytes[size] = b;
                size++;
            }
        }

        /** Tells a gaol, which is as at first, what the text says: the FAULT, or NO_FAULT. */
        int read(Gaol told) {
            stop = 0;
            fault = NO_FAULT;
            step();
            // Each turn takes a token or ends in a fault.
            for (int i = 0; i <= TAPE_BYTES && sort != END && fault == NO_FAULT; i++) {
                tellOne(told);
            }
            return fault;
        }

        void tellOne(Gaol told) {
            int kind = kindNamed();
            int law = lawNamed();
            if (kind >= 0) {
                tellInmate(told, kind);
            } else if (law >= 0) {
                tellLaw(told, law);
            } else if (isName("rite")) {
                tellRite(told);
            } else if (isName("wait")) {
                tellWait(told);
            } else {
                fail();
            }
        }

        void tellInmate(Gaol told, int kind) {
            if (told.count >= MOST_INMATES) {
                fail();
                return;
            }
            step();
            takeName("in");
            int room = takeNumber(ROOMS - 1);
            int grace = FIRST_GRACE;
            if (isName("grace")) {
                step();
                grace = takeNumber(TOP_GRACE);
            }
            takeEnd();
            if (fault == NO_FAULT) {
                told.add(kind, grace, room);
            }
        }

        void tellLaw(Gaol told, int law) {
            step();
            int v = takeNumber(TOP_LAWS[law]);
            takeEnd();
            if (fault == NO_FAULT) {
                told.laws[law] = v;
            }
        }

        void tellRite(Gaol told) {
            step();
            int room = takeNumber(ROOMS - 1);
            takeName("is");
            int v = takeNumber(TOP_RITE);
            takeEnd();
            if (fault == NO_FAULT) {
                told.rites[room] = v;
            }
        }

        void tellWait(Gaol told) {
            step();
            int one = takeNumber(told.count - 1);
            takeName("for");
            if (sort == NUMBER && value == one) {
                fail();
            }
            int other = takeNumber(told.count - 1);
            takeEnd();
            if (fault == NO_FAULT) {
                told.hosts[one] = other;
            }
        }

        int kindNamed() {
            if (isName("inmate")) {
                return INMATE;
            }
            if (isName("burglar")) {
                return BURGLAR;
            }
            if (isName("duellist")) {
                return DUELLIST;
            }
            if (isName("forger")) {
                return FORGER;
            }
            if (isName("nun")) {
                return NUN;
            }
            return isName("child") ? CHILD : -1;
        }

        int lawNamed() {
            if (isName("strict")) {
                return STRICT;
            }
            if (isName("ease")) {
                return EASE;
            }
            if (isName("due")) {
                return DUE;
            }
            return isName("sneeze") ? SNEEZE : -1;
        }

        boolean isName(String name) {
            if (sort != NAME || stop - start != name.length()) {
                return false;
            }
            for (int i = 0; i < name.length(); i++) {
                if (bytes[start + i] != name.charAt(i)) {
                    return false;
                }
            }
            return true;
        }

        void takeName(String name) {
            if (isName(name)) {
                step();
            } else {
                fail();
            }
        }

        /** 0 where there is a fault: it may be used as an index before the fault is looked at. */
        int takeNumber(int top) {
            if (sort != NUMBER || stop - start > DIGITS || value > top) {
                fail();
                return 0;
            }
            int v = value;
            step();
            return v;
        }

        void takeEnd() {
            if (sort == SIGN && bytes[start] == ';') {
                step();
            } else {
                fail();
            }
        }

        /** The first fault stays. */
        void fail() {
            if (fault == NO_FAULT) {
                fault = start;
            }
        }

        /** Goes on to the next token. */
        void step() {
            start = stop;
            while (start < size && bytes[start] == ' ') {
                start++;
            }
            stop = start;
            value = 0;
            if (start >= size) {
                sort = END;
            } else if (isLetter(start)) {
                sort = NAME;
                while (stop < size && isLetter(stop)) {
                    stop++;
                }
            } else if (isDigit(start)) {
                sort = NUMBER;
                while (stop < size && isDigit(stop)) {
                    value = value * 10 + bytes[stop] - '0';
                    stop++;
                }
            } else {
                sort = SIGN;
                stop++;
            }
        }

        boolean isLetter(int place) {
            return bytes[place] >= 'a' && bytes[place] <= 'z';
        }

        boolean isDigit(int place) {
            return bytes[place] >= '0' && bytes[place] <= '9';
        }
    }

    /** Items are ints for longs too: put() takes nothing longer. */
    private static final class Sheet {
        final int[] items = new int[SHEET_ITEMS];
        int sort = MISSING;
        int size = 0;

        void become(int newSort, int newSize) {
            sort = newSort;
            size = newSize;
            for (int i = 0; i < SHEET_ITEMS; i++) {
                items[i] = 0;
            }
        }

        int narrowed(int v) {
            switch (sort) {
                case BYTES: return (byte) v;
                case SHORTS: return (short) v;
                default: return v;
            }
        }
    }

    /** Of a row it holds the sort and the size: they stay, whatever its SHEET becomes later. */
    private static final class Shelf {
        int holds = HOLDS_NOTHING;
        int inmate = 0;
        int sort = MISSING;
        int size = 0;

        void holdInmate(int n) {
            holds = HOLDS_INMATE;
            inmate = n;
        }

        void holdRow(Sheet sheet) {
            holds = sheet.sort == MISSING ? HOLDS_NOTHING : HOLDS_ROW;
            sort = sheet.sort;
            size = sheet.size;
        }
    }

    /** One act(): the thing that does it, and THE TRACE. */
    private static final class Deed {
        final int[] bodies = new int[MOST_BODIES];
        int ran = 0;
        int kind = INMATE;
        int n = 0;
        int a = 0;
        boolean isStuck = false;

        void begin(int ofKind, int number, int room) {
            kind = ofKind;
            n = number;
            a = room;
            isStuck = false;
        }

        void mark(int body) {
            if (ran < MOST_BODIES) {
                bodies[ran] = body;
                ran++;
            }
        }

        int own(int act) {
            int place = kind * ACTS + act;
            return place >= 0 && place < OWN_BODIES.length ? OWN_BODIES[place] : 0;
        }

        int parted(int x) {
            int by = a - n;
            if (by == 0) {
                isStuck = true;
                return 0;
            }
            return x / by;
        }
    }
}
