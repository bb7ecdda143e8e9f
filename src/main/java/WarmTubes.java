/** A house whose thermometers take the warmth out of its rooms: ../shared/DOC.md says what each call answers. */
public final class WarmTubes {
    public static final int NONE = -1000000, BAD = -1000001, STATE = -1000002, FULL = -1000003;

    private static final int FINDINGS = -1000010, FAULTS = -1000100;
    private static final int NULL = 1, PLACE = 2, KIND = 3, SIZE = 4, STORE = 5;
    private static final int MOST_ROOMS = 5, MOST_TUBES = 6, MOST_WARMTH = 999, MOST_STOVE = 20;
    private static final int MOST_TAKES = 9, MOST_HOLDS = 40, MOST_FROST = 9, MOST_COLD = 60, MOST_MINUTE = 999;
    private static final int PLAIN = 1, GREEDY = 2, SLOW = 3, WRAPPED = 4, LEAKING = 5, KINDS = 6;
    private static final int IMAGES = 2, POURINGS = 3;
    private static final int FAR = 60, NEAR = 30, TOLD = 12, TURNS = 24;
    private static final int AS_IT_IS = 64;

    /** By KIND: the KIND that each one is, too; TUBE itself is no other. */
    private static final int[] ABOVE = {-1, 0, 1, 1, 0, 4};
    /** By KIND: the BODY that begins when SIZE, MARK are asked. */
    private static final int[] SIZE_BODY = {10, 11, 12, 11, 13, 14};
    private static final int[] MARK_BODY = {20, 21, 24, 22, 23, 23};

    private final Rows rows = new Rows();
    private final Tape tape = new Tape();
    private final House now = new House();
    /** All that is foretold happens here, so that nothing changes in the HOUSE that stands. */
    private final House then = new House();
    private final House[] images = {new House(), new House()};
    private final Past past = new Past();
    private final int[] pourings = new int[POURINGS];
    private final Trace trace = new Trace();
    private int latestFault = 0;
    private int latestFinding = 0;

    public WarmTubes() {
    }

    // ---- rows

    public int row(int row, int lane, int n) {
        if (!isRow(row) || !within(lane, 0, 2) || n > Rows.LONGEST) {
            return BAD;
        }
        if (n < 0) {
            return found(SIZE);
        }
        rows.lay(row, lane, n);
        return plain(n);
    }

    public int set(int row, int i, int v) {
        if (!isRow(row)) {
            return BAD;
        }
        int finding = rows.reach(row, i, 1);
        if (finding != 0) {
            return found(finding);
        }
        return plain(rows.put(row, i, v));
    }

    public int copy(int a, int i, int b, int j, int n) {
        if (!isRow(a) || !isRow(b)) {
            return BAD;
        }
        if (rows.isMissing(a) || rows.isMissing(b)) {
            return found(NULL);
        }
        if (rows.lane[a] != rows.lane[b]) {
            return found(STORE);
        }
        if (rows.reach(a, i, n) != 0 || rows.reach(b, j, n) != 0) {
            return found(PLACE);
        }
        System.arraycopy(rows.items, rows.at(a, i), rows.items, rows.at(b, j), n);
        return plain(n);
    }

    public int drop(int row) {
        if (!isRow(row)) {
            return BAD;
        }
        if (rows.isMissing(row)) {
            return found(NULL);
        }
        int had = rows.size[row];
        rows.lose(row);
        return plain(had);
    }

    // ---- what is told

    public int feed(int letter) {
        if (!within(letter, 0, 255)) {
            return BAD;
        }
        if (tape.length >= Tape.LONGEST) {
            return FULL;
        }
        tape.bytes[tape.length] = letter;
        tape.length++;
        return tape.length;
    }

    public int house() {
        boolean told = tape.tell(then);
        tape.length = 0;
        if (!told) {
            latestFault = tape.fault;
            return FAULTS - tape.place;
        }
        now.become(then);
        past.forget();
        return now.tubes;
    }

    public int fault() {
        return latestFault;
    }

    public int undo() {
        if (past.size == 0) {
            return STATE;
        }
        past.bringBack(now);
        return past.size;
    }

    // ---- what is done

    public int minutes(int n) {
        if (!now.stands()) {
            return STATE;
        }
        if (!within(n, 1, TURNS)) {
            return BAD;
        }
        if (now.minute + n > MOST_MINUTE) {
            return FULL;
        }
        for (int i = 0; i < n; i++) {
            past.keep(now);
            now.passMinute();
        }
        return now.coldRooms();
    }

    public int carry(int tube, int room) {
        if (!isTube(tube) || !isPlace(room)) {
            return BAD;
        }
        int was = now.where[tube];
        if (was == room) {
            return STATE;
        }
        past.keep(now);
        now.where[tube] = room;
        return was;
    }

    public int shake(int tube) {
        if (!isTube(tube)) {
            return BAD;
        }
        int was = now.up[tube];
        if (was == 0) {
            return STATE;
        }
        past.keep(now);
        now.letDown(tube);
        return was;
    }

    public int pour(int tube, int other) {
        if (!isTube(tube) || !isTube(other) || tube == other) {
            return BAD;
        }
        int much = now.pourable(tube, other);
        if (much == 0) {
            return STATE;
        }
        past.keep(now);
        now.shift(tube, other, much);
        return much;
    }

    public int stove(int room, int n) {
        if (!isRoom(room) || !within(n, 0, MOST_STOVE)) {
            return BAD;
        }
        int was = now.stove[room];
        past.keep(now);
        now.stove[room] = n;
        return was;
    }

    public int tube(int tube, int what) {
        if (!isTube(tube)) {
            return BAD;
        }
        switch (what) {
            case 0: return now.where[tube];
            case 1: return now.takes[tube];
            case 2: return now.holds[tube];
            case 3: return now.up[tube];
            case 4: return now.wants(tube);
            default: return BAD;
        }
    }

    public int room(int room, int what) {
        if (!isPlace(room)) {
            return BAD;
        }
        if (what == 3) {
            return now.tubesAt(room);
        }
        if (!isRoom(room)) {
            return BAD;
        }
        switch (what) {
            case 0: return now.warmth[room];
            case 1: return now.stove[room];
            case 2: return now.isCold(room) ? 1 : 0;
            default: return BAD;
        }
    }

    // ---- foretold

    public int ahead(int room, int n) {
        if (!isRoom(room) || !within(n, 0, FAR)) {
            return BAD;
        }
        then.become(now);
        then.passMinutes(n);
        return then.warmth[room];
    }

    public int upAhead(int tube, int n) {
        if (!isTube(tube) || !within(n, 0, FAR)) {
            return BAD;
        }
        then.become(now);
        then.passMinutes(n);
        return then.up[tube];
    }

    public int chill(int room) {
        if (!isRoom(room)) {
            return BAD;
        }
        return untilCold(1 << room);
    }

    public int first(int what) {
        if (!now.stands()) {
            return STATE;
        }
        if (!within(what, 0, 1)) {
            return BAD;
        }
        int behind = untilCold(-1);
        if (behind == NONE || what == 1) {
            return behind;
        }
        return Integer.numberOfTrailingZeros(then.coldRooms());
    }

    public int filled(int tube) {
        if (!isTube(tube)) {
            return BAD;
        }
        then.become(now);
        for (int t = 0; t <= FAR; t++) {
            if (then.up[tube] == then.holds[tube]) {
                return t;
            }
            then.passMinute();
        }
        return NONE;
    }

    public int outs(int room, int n, int what) {
        if (!isRoom(room) || !within(n, 1, NEAR) || !within(what, 0, 1)) {
            return BAD;
        }
        int best = NONE;
        // TUBES in other ROOMS take nothing from this one: to carry them out cannot help
        int inside = now.tubesAt(room);
        for (int set = 0; set <= inside; set++) {
            if (isPart(set, inside) && isFewer(set, best) && staysWarm(room, n, set)) {
                best = set;
            }
        }
        return toldSet(best, what);
    }

    public int shakes(int room, int n, int what) {
        if (!isRoom(room) || !within(n, 1, NEAR) || !within(what, 0, 1)) {
            return BAD;
        }
        int best = NONE;
        int inside = now.tubesAt(room);
        for (int set = 0; set <= inside; set++) {
            if (isPart(set, inside) && isFewer(set, best) && isWarmShaken(room, n, set)) {
                best = set;
            }
        }
        return toldSet(best, what);
    }

    public int hang(int tube, int n, int what) {
        if (!isTube(tube) || !within(n, 1, NEAR) || !within(what, 0, 1)) {
            return BAD;
        }
        int best = 0;
        int most = -1;
        for (int place = 0; place <= now.rooms; place++) {
            then.become(now);
            then.where[tube] = place;
            then.passMinutes(n);
            if (then.up[tube] > most) {
                most = then.up[tube];
                best = place;
            }
        }
        return what == 0 ? best : most;
    }

    public int fire(int room, int n) {
        if (!isRoom(room) || !within(n, 1, NEAR)) {
            return BAD;
        }
        for (int heat = 0; heat <= MOST_STOVE; heat++) {
            then.become(now);
            then.stove[room] = heat;
            then.passMinutes(n);
            if (!then.isCold(room)) {
                return heat;
            }
        }
        return NONE;
    }

    public int pours(int tube, int much, int k) {
        if (!isTube(tube) || !within(much, 0, MOST_HOLDS) || k < -1) {
            return BAD;
        }
        then.become(now);
        for (int steps = 0; steps <= POURINGS; steps++) {
            if (canPour(then, pourings, tube, much, 0, steps)) {
                return k == -1 ? steps : k < steps ? pourings[k] : NONE;
            }
        }
        return NONE;
    }

    public int mix(int room, int w, int what) {
        if (!isRoom(room) || !within(w, 0, MOST_WARMTH) || !within(what, 0, 1)) {
            return BAD;
        }
        int many = 0;
        int least = NONE;
        int inside = now.tubesAt(room);
        for (int set = 0; set <= inside; set++) {
            if (isPart(set, inside) && Math.min(MOST_WARMTH, now.warmth[room] + now.upIn(set)) == w) {
                many++;
                if (least == NONE) {
                    least = set;
                }
            }
        }
        return what == 0 ? many : least;
    }

    public int degrees() {
        return now.stands() ? now.all() : STATE;
    }

    public int sale(int tube, int n, int b, int c, int what) {
        if (!isTube(tube) || !within(n, 1, NEAR) || !within(b, 1, 99) || !within(c, 0, 9) || !within(what, 0, 1)) {
            return BAD;
        }
        int when = 0;
        int most = -1;
        then.become(now);
        for (int t = 0; t <= n; t++) {
            int worth = then.up[tube] * Math.max(0, b - c * t);
            if (worth > most) {
                most = worth;
                when = t;
            }
            then.passMinute();
        }
        return what == 0 ? when : most;
    }

    public int who(int tube, int which, int room, int row, int i, int n) {
        if (!isTube(tube) || !within(which, 0, 2) || !isRoom(room) || !isRow(row) || !within(n, 1, TOLD)) {
            return BAD;
        }
        int finding = rows.reach(row, i, n);
        if (finding != 0) {
            return found(finding);
        }
        int least = which == 2 ? 0 : 1;
        int most = which == 0 ? LEAKING : which == 1 ? MOST_TAKES : now.rooms;
        int fitting = 0;
        for (int v = least; v <= most; v++) {
            then.become(now);
            then.suppose(tube, which, v);
            if (comesTrue(room, row, i, n)) {
                fitting |= 1 << v;
            }
        }
        return plain(fitting);
    }

    public int frosts(int room, int which, int row, int i, int n) {
        if (!isRoom(room) || !within(which, 0, 1) || !isRow(row) || !within(n, 1, TOLD)) {
            return BAD;
        }
        int finding = rows.reach(row, i, n);
        if (finding != 0) {
            return found(finding);
        }
        return plain(which == 0 ? fittingFrosts(room, row, i, n) : fittingShaken(room, row, i, n));
    }

    public long forgotten(int room, int n, int p, int what) {
        if (!isRoom(room) || !within(n, 0, NEAR) || !within(p, 0, 10) || !within(what, 0, 1)) {
            return BAD;
        }
        // TUBES in other ROOMS, forgotten or not, leave this one as it is, and so the fraction, too
        int inside = now.tubesAt(room);
        long above = 0;
        for (int set = 0; set <= inside; set++) {
            long cases = power(10 - p, Integer.bitCount(set)) * power(p, Integer.bitCount(inside & ~set));
            if (isPart(set, inside) && cases > 0 && isWarmWithout(room, n, set)) {
                above += cases;
            }
        }
        long below = power(10, Integer.bitCount(inside));
        long part = Math.max(1, commonPart(above, below));
        return what == 0 ? above / part : below / part;
    }

    public int drawn(int n, int seed, int what) {
        if (!now.stands()) {
            return STATE;
        }
        if (!within(n, 0, FAR) || !within(seed, 1, 999999) || !within(what, 0, 1)) {
            return BAD;
        }
        long x = seed;
        then.become(now);
        for (int t = 0; t < n; t++) {
            x = x * 16807 % 2147483647;
            then.obeyDraw(x);
            then.passMinute();
        }
        return what == 0 ? Integer.bitCount(then.coldRooms()) : then.all();
    }

    public int image(int k) {
        if (!within(k, 0, IMAGES - 1)) {
            return BAD;
        }
        if (!now.stands()) {
            return STATE;
        }
        images[k].become(now);
        return 1;
    }

    public int restore(int k) {
        if (!within(k, 0, IMAGES - 1)) {
            return BAD;
        }
        if (!images[k].stands()) {
            return STATE;
        }
        now.become(images[k]);
        past.forget();
        return 1;
    }

    // ---- asked

    public int kind(int one) {
        return isTube(one) ? now.sort[one] : BAD;
    }

    public int as(int one, int kind) {
        if (!isTube(one) || !within(kind, 0, KINDS - 1)) {
            return BAD;
        }
        int is = now.sort[one];
        for (int step = 0; step < KINDS && within(is, 0, KINDS - 1); step++) {
            if (is == kind) {
                return plain(one);
            }
            is = ABOVE[is];
        }
        return found(KIND);
    }

    public int ask(int one, int what) {
        if (!isTube(one) || !within(what, 0, 1)) {
            return BAD;
        }
        trace.length = 0;
        return begin(now, trace, what == 0 ? sizeBody(now, one) : markBody(now, one), one, 0);
    }

    public int trace(int i) {
        return within(i, 0, trace.length - 1) ? trace.begun[i] : NONE;
    }

    public int count(int what) {
        switch (what) {
            case 0: return rows.present();
            case 1: return now.rooms;
            case 2: return now.tubes;
            case 3: return now.minute;
            case 4: return now.coldRooms();
            case 5: return now.upIn(-1);
            case 6: return past.size;
            case 7: return tape.length;
            default: return BAD;
        }
    }

    public int status() {
        return latestFinding;
    }

    // ---- what the calls share

    private static boolean within(int n, int least, int most) {
        return n >= least && n <= most;
    }

    private static boolean isRow(int row) {
        return within(row, 0, Rows.MANY - 1);
    }

    private boolean isTube(int tube) {
        return within(tube, 0, now.tubes - 1);
    }

    private boolean isRoom(int room) {
        return within(room, 0, now.rooms - 1);
    }

    /** A ROOM or THE STEP; without a HOUSE there is no STEP either. */
    private boolean isPlace(int room) {
        return now.stands() && within(room, 0, now.rooms);
    }

    private int found(int finding) {
        latestFinding = finding;
        return FINDINGS - finding;
    }

    private int plain(int answer) {
        latestFinding = 0;
        return answer;
    }

    private static boolean isPart(int set, int whole) {
        return (set & ~whole) == 0;
    }

    /** Sets are tried from the least on, so that of several equally small ones the least stays. */
    private static boolean isFewer(int set, int best) {
        return best == NONE || Integer.bitCount(set) < Integer.bitCount(best);
    }

    private static int toldSet(int set, int what) {
        if (set == NONE) {
            return NONE;
        }
        return what == 0 ? Integer.bitCount(set) : set;
    }

    /** Leaves the HOUSE foretold at the MINUTE found, for first() to look which ROOM it is. */
    private int untilCold(int which) {
        then.become(now);
        for (int t = 0; t <= FAR; t++) {
            if ((then.coldRooms() & which) != 0) {
                return t;
            }
            then.passMinute();
        }
        return NONE;
    }

    private boolean staysWarm(int room, int n, int out) {
        then.become(now);
        then.carryOut(out);
        for (int t = 0; t < n; t++) {
            then.passMinute();
            if (then.isCold(room)) {
                return false;
            }
        }
        return true;
    }

    private boolean isWarmWithout(int room, int n, int out) {
        then.become(now);
        then.carryOut(out);
        then.passMinutes(n);
        return !then.isCold(room);
    }

    private boolean isWarmShaken(int room, int n, int shaken) {
        then.become(now);
        then.letDownAll(shaken);
        then.passMinutes(n);
        return !then.isCold(room);
    }

    /**
     * Looks for exactly that many POURINGS; fewer were tried before, so the last one
     * must change the TUBE itself: others are passed over there.
     */
    private static boolean canPour(House house, int[] told, int tube, int much, int step, int steps) {
        if (step >= steps || step >= told.length) {
            return house.up[tube] == much;
        }
        boolean last = step == steps - 1;
        int near = house.tubesAt(house.where[tube]);
        for (int a = 0; a < house.tubes; a++) {
            for (int b = 0; b < house.tubes; b++) {
                boolean fits = isPart(1 << a | 1 << b, near) && (!last || a == tube || b == tube);
                int flow = fits ? house.pourable(a, b) : 0;
                if (flow > 0) {
                    told[step] = 10 * a + b;
                    house.shift(a, b, flow);
                    if (canPour(house, told, tube, much, step + 1, steps)) {
                        return true;
                    }
                    house.shift(b, a, flow);
                }
            }
        }
        return false;
    }

    /** Whether the foretold HOUSE, from its MINUTE on, goes as the ITEMS tell. */
    private boolean comesTrue(int room, int row, int i, int n) {
        for (int t = 0; t < n; t++) {
            then.passMinute();
            if (then.warmth[room] != rows.items[rows.at(row, i + t)]) {
                return false;
            }
        }
        return true;
    }

    private int fittingFrosts(int room, int row, int i, int n) {
        int fitting = 0;
        for (int frost = 0; frost <= MOST_FROST; frost++) {
            then.become(now);
            then.frost = frost;
            if (comesTrue(room, row, i, n)) {
                fitting |= 1 << frost;
            }
        }
        return fitting;
    }

    private int fittingShaken(int room, int row, int i, int n) {
        then.become(now);
        int fitting = comesTrue(room, row, i, n) ? AS_IT_IS : 0;
        for (int tube = 0; tube < now.tubes; tube++) {
            then.become(now);
            then.letDown(tube);
            if (comesTrue(room, row, i, n)) {
                fitting |= 1 << tube;
            }
        }
        return fitting;
    }

    private static long power(int base, int times) {
        long product = 1;
        for (int i = 0; i < times; i++) {
            product *= base;
        }
        return product;
    }

    private static long commonPart(long a, long b) {
        long greater = a;
        long rest = b;
        for (int i = 0; i < 100 && rest != 0; i++) {
            long left = greater % rest;
            greater = rest;
            rest = left;
        }
        return greater;
    }

    private static int sizeBody(House house, int one) {
        int is = house.sort[one];
        return within(is, 0, KINDS - 1) ? SIZE_BODY[is] : SIZE_BODY[0];
    }

    private static int markBody(House house, int one) {
        int is = house.sort[one];
        return within(is, 0, KINDS - 1) ? MARK_BODY[is] : MARK_BODY[0];
    }

    /** The BODIES as the document numbers them; none of their chains is as deep as THE TRACE is long. */
    private static int begin(House house, Trace trace, int body, int one, int depth) {
        if (depth >= Trace.LONGEST) {
            return 0;
        }
        trace.leave(body);
        int below = depth + 1;
        switch (body) {
            case 10: return house.holds[one];
            case 11: return begin(house, trace, 10, one, below) + begin(house, trace, markBody(house, one), one, below);
            case 12: return -begin(house, trace, 11, one, below);
            case 13: return begin(house, trace, 10, one, below) - 100;
            case 14: return begin(house, trace, 13, one, below) * 2;
            case 20: return one;
            case 21: return begin(house, trace, 20, one, below) + house.up[one];
            case 22: return begin(house, trace, 21, one, below) - 1000;
            case 23: return begin(house, trace, 20, one, below) - begin(house, trace, sizeBody(house, one), one, below);
            case 24: return begin(house, trace, 21, one, below) * 2;
            default: return 0;
        }
    }

    /** The numbers that BODIES leave, the first ones only. */
    private static final class Trace {
        static final int LONGEST = 16;

        final int[] begun = new int[LONGEST];
        int length = 0;

        void leave(int body) {
            if (length < LONGEST) {
                begun[length] = body;
                length++;
            }
        }
    }

    /** A HOUSE with all that it is told by and all that happens in it; without ROOMS it does not stand. */
    private static final class House {
        /** How many numbers ACTS can change. */
        static final int CHANGING = 1 + 2 * MOST_ROOMS + 2 * MOST_TUBES;

        int frost = 0;
        int cold = 0;
        int rooms = 0;
        int tubes = 0;
        int minute = 0;
        final int[] warmth = new int[MOST_ROOMS];
        final int[] stove = new int[MOST_ROOMS];
        final int[] sort = new int[MOST_TUBES];
        final int[] where = new int[MOST_TUBES];
        final int[] takes = new int[MOST_TUBES];
        final int[] holds = new int[MOST_TUBES];
        final int[] up = new int[MOST_TUBES];

        boolean stands() {
            return rooms > 0;
        }

        void become(House other) {
            frost = other.frost;
            cold = other.cold;
            rooms = other.rooms;
            tubes = other.tubes;
            minute = other.minute;
            System.arraycopy(other.warmth, 0, warmth, 0, MOST_ROOMS);
            System.arraycopy(other.stove, 0, stove, 0, MOST_ROOMS);
            System.arraycopy(other.sort, 0, sort, 0, MOST_TUBES);
            System.arraycopy(other.where, 0, where, 0, MOST_TUBES);
            System.arraycopy(other.takes, 0, takes, 0, MOST_TUBES);
            System.arraycopy(other.holds, 0, holds, 0, MOST_TUBES);
            System.arraycopy(other.up, 0, up, 0, MOST_TUBES);
        }

        void writeChanging(int[] to, int at) {
            to[at] = minute;
            System.arraycopy(warmth, 0, to, at + 1, MOST_ROOMS);
            System.arraycopy(stove, 0, to, at + 1 + MOST_ROOMS, MOST_ROOMS);
            System.arraycopy(where, 0, to, at + 1 + 2 * MOST_ROOMS, MOST_TUBES);
            System.arraycopy(up, 0, to, at + 1 + 2 * MOST_ROOMS + MOST_TUBES, MOST_TUBES);
        }

        void readChanging(int[] from, int at) {
            minute = from[at];
            System.arraycopy(from, at + 1, warmth, 0, MOST_ROOMS);
            System.arraycopy(from, at + 1 + MOST_ROOMS, stove, 0, MOST_ROOMS);
            System.arraycopy(from, at + 1 + 2 * MOST_ROOMS, where, 0, MOST_TUBES);
            System.arraycopy(from, at + 1 + 2 * MOST_ROOMS + MOST_TUBES, up, 0, MOST_TUBES);
        }

        /** THE STEP, which has no WARMTH, is as a COLD one. */
        boolean isCold(int place) {
            return place >= rooms || warmth[place] <= cold;
        }

        int coldRooms() {
            int cooled = 0;
            for (int r = 0; r < rooms; r++) {
                if (warmth[r] <= cold) {
                    cooled |= 1 << r;
                }
            }
            return cooled;
        }

        int tubesAt(int place) {
            int there = 0;
            for (int t = 0; t < tubes; t++) {
                if (where[t] == place) {
                    there |= 1 << t;
                }
            }
            return there;
        }

        int upIn(int set) {
            int sum = 0;
            for (int t = 0; t < tubes; t++) {
                if ((set >> t & 1) != 0) {
                    sum += up[t];
                }
            }
            return sum;
        }

        int all() {
            int sum = upIn(-1);
            for (int r = 0; r < rooms; r++) {
                sum += warmth[r];
            }
            return sum;
        }

        int wants(int t) {
            switch (sort[t]) {
                case GREEDY: return takes[t] + up[t] / 10;
                case SLOW: return minute % 2 == 0 ? takes[t] : 0;
                case WRAPPED: case LEAKING: return isCold(where[t]) ? 0 : takes[t];
                default: return takes[t];
            }
        }

        void passMinute() {
            for (int t = 0; t < tubes; t++) {
                giveBack(t);
                drawUp(t);
            }
            for (int r = 0; r < rooms; r++) {
                warmth[r] = Math.min(MOST_WARMTH, Math.max(0, warmth[r] - frost) + stove[r]);
            }
            minute++;
        }

        void passMinutes(int n) {
            for (int i = 0; i < n; i++) {
                passMinute();
            }
        }

        /** The document names no most here: at 999 the TUBE takes at least as much again at once. */
        private void giveBack(int t) {
            if (sort[t] != LEAKING || up[t] == 0) {
                return;
            }
            up[t]--;
            if (where[t] < rooms) {
                warmth[where[t]]++;
            }
        }

        private void drawUp(int t) {
            int r = where[t];
            if (r >= rooms) {
                return;
            }
            int much = Math.min(wants(t), Math.min(warmth[r], holds[t] - up[t]));
            up[t] += much;
            warmth[r] -= much;
        }

        void letDown(int t) {
            int r = where[t];
            if (r < rooms) {
                warmth[r] = Math.min(MOST_WARMTH, warmth[r] + up[t]);
            }
            up[t] = 0;
        }

        void letDownAll(int set) {
            for (int t = 0; t < tubes; t++) {
                if ((set >> t & 1) != 0) {
                    letDown(t);
                }
            }
        }

        void carryOut(int set) {
            for (int t = 0; t < tubes; t++) {
                if ((set >> t & 1) != 0) {
                    where[t] = rooms;
                }
            }
        }

        /** 0: the one cannot be POURED to the other. */
        int pourable(int one, int other) {
            if (one == other || where[one] != where[other]) {
                return 0;
            }
            return Math.min(up[one], holds[other] - up[other]);
        }

        void shift(int one, int other, int much) {
            up[one] -= much;
            up[other] += much;
        }

        void suppose(int t, int which, int v) {
            switch (which) {
                case 0: sort[t] = v; break;
                case 1: takes[t] = v; break;
                default: where[t] = v; break;
            }
        }

        void obeyDraw(long x) {
            if (tubes < 1 || rooms < 1) {
                return;
            }
            int t = (int) (x % tubes);
            if (x % 4 == 0) {
                letDown(t);
            }
            if (x % 5 == 0) {
                where[t] = (int) (x % rooms);
            }
        }
    }

    /** What ACTS found, the latest ones only: a ring in one array. */
    private static final class Past {
        static final int MOST = 24;

        final int[] found = new int[MOST * House.CHANGING];
        int next = 0;
        int size = 0;

        void forget() {
            size = 0;
        }

        void keep(House house) {
            house.writeChanging(found, next * House.CHANGING);
            next = (next + 1) % MOST;
            size = Math.min(MOST, size + 1);
        }

        void bringBack(House house) {
            if (size == 0) {
                return;
            }
            next = (next + MOST - 1) % MOST;
            size--;
            house.readChanging(found, next * House.CHANGING);
        }
    }

    /** All ROWS in one array, each with its own stretch, so that no call makes new ones. */
    private static final class Rows {
        static final int MANY = 8, LONGEST = 40, MISSING = -1;

        final int[] lane = {MISSING, MISSING, MISSING, MISSING, MISSING, MISSING, MISSING, MISSING};
        final int[] size = new int[MANY];
        final int[] items = new int[MANY * LONGEST];

        boolean isMissing(int row) {
            return lane[row] == MISSING;
        }

        int at(int row, int i) {
            return row * LONGEST + i;
        }

        void lay(int row, int kept, int n) {
            lane[row] = kept;
            size[row] = n;
            for (int i = 0; i < LONGEST; i++) {
                items[at(row, i)] = 0;
            }
        }

        void lose(int row) {
            lane[row] = MISSING;
            size[row] = 0;
        }

        int present() {
            int many = 0;
            for (int row = 0; row < MANY; row++) {
                if (!isMissing(row)) {
                    many++;
                }
            }
            return many;
        }

        /** The FINDING of one who wants n ITEMS from i on; 0: they are there. */
        int reach(int row, int i, int n) {
            if (isMissing(row)) {
                return NULL;
            }
            // n is known to be no longer than the ROW when it is taken off, so nothing wraps around
            return i < 0 || n < 0 || n > size[row] || i > size[row] - n ? PLACE : 0;
        }

        int put(int row, int i, int v) {
            int lowest = lane[row] == 0 ? (byte) v : lane[row] == 1 ? (short) v : v;
            items[at(row, i)] = lowest;
            return lowest;
        }
    }

    /** THE TAPE, and how a HOUSE is read from it. */
    private static final class Tape {
        static final int LONGEST = 120;
        static final int NO_TOKEN = 1, NOT_AS_TOLD = 2, TOO_MANY = 3;

        final int[] bytes = new int[LONGEST];
        int length = 0;
        int fault = 0;
        int place = 0;
        private int at = 0;

        /** What is read before a FAULT stays in the HOUSE handed in: it must be one that nobody needs. */
        boolean tell(House into) {
            at = 0;
            into.rooms = 0;
            into.tubes = 0;
            into.minute = 0;
            return tellLaw(into) && tellRooms(into) && tellTubes(into);
        }

        private boolean tellLaw(House into) {
            if (!pass('h')) {
                return false;
            }
            into.frost = number(0, MOST_FROST);
            if (into.frost < 0 || !pass(',')) {
                return false;
            }
            into.cold = number(0, MOST_COLD);
            return into.cold >= 0 && pass(';');
        }

        private boolean tellRooms(House into) {
            for (int r = 0; r <= MOST_ROOMS; r++) {
                if (r > 0 && peek() != 'm') {
                    return true;
                }
                if (r == MOST_ROOMS) {
                    return fail(TOO_MANY);
                }
                if (!tellRoom(into, r)) {
                    return false;
                }
                into.rooms = r + 1;
            }
            return true;
        }

        private boolean tellRoom(House into, int r) {
            if (!pass('m')) {
                return false;
            }
            into.warmth[r] = number(0, 99);
            if (into.warmth[r] < 0 || !pass(',')) {
                return false;
            }
            into.stove[r] = number(0, MOST_STOVE);
            return into.stove[r] >= 0 && pass(';');
        }

        private boolean tellTubes(House into) {
            for (int t = 0; t <= MOST_TUBES; t++) {
                if (t > 0 && at >= length) {
                    return true;
                }
                int sort = sortOf(peek());
                if (sort == 0) {
                    return fail(NO_TOKEN);
                }
                if (t == MOST_TUBES) {
                    return fail(TOO_MANY);
                }
                at++;
                into.sort[t] = sort;
                if (!tellTube(into, t)) {
                    return false;
                }
                into.tubes = t + 1;
            }
            return true;
        }

        private boolean tellTube(House into, int t) {
            into.up[t] = 0;
            into.where[t] = number(0, into.rooms);
            if (into.where[t] < 0 || !pass(',')) {
                return false;
            }
            into.takes[t] = number(1, MOST_TAKES);
            if (into.takes[t] < 0 || !pass(',')) {
                return false;
            }
            into.holds[t] = number(1, MOST_HOLDS);
            return into.holds[t] >= 0 && pass(';');
        }

        private static int sortOf(int letter) {
            switch (letter) {
                case 'p': return PLAIN;
                case 'g': return GREEDY;
                case 's': return SLOW;
                case 'w': return WRAPPED;
                case 'l': return LEAKING;
                default: return 0;
            }
        }

        private boolean fail(int number) {
            fault = number;
            place = at;
            return false;
        }

        /** -1: the end. */
        private int peek() {
            return at < length && at < LONGEST ? bytes[at] : -1;
        }

        private boolean pass(int sign) {
            if (peek() != sign) {
                return fail(NO_TOKEN);
            }
            at++;
            return true;
        }

        /** -1: a FAULT. */
        private int number(int least, int most) {
            int figures = 0;
            int value = 0;
            int begins = at;
            while (figures < 3 && peek() >= '0' && peek() <= '9') {
                value = value * 10 + peek() - '0';
                figures++;
                at++;
            }
            boolean isNumber = figures == 1 || figures == 2;
            if (isNumber && within(value, least, most)) {
                return value;
            }
            at = begins;
            fail(isNumber ? NOT_AS_TOLD : NO_TOKEN);
            return -1;
        }
    }
}
