import java.math.BigInteger;
import java.util.ArrayDeque;
import java.util.ArrayList;
import java.util.Arrays;
import java.util.Deque;
import java.util.List;
import java.util.Random;
import java.util.TreeMap;
import java.util.regex.Matcher;
import java.util.regex.Pattern;

/**
 * Long runs of drawn calls, each answer compared with that of a second program, which is written
 * from the document another way: with a class for each KIND, copies of whole houses, and plain search.
 */
public final class OracleTest {
    /** CALLS: what the document gives an object. A turn makes 15 at most: row, 12 times set, status, fault. */
    private static final int OBJECTS = 3000, CALLS = 512, MOST_A_TURN = 15;
    /** The calls that can change status() or fault(). */
    private static final List<String> FINDING = List.of("row", "set", "copy", "drop", "who", "frosts", "as", "told", "house");

    public static void main(String[] args) {
        int wrong = 0;
        TreeMap<String, Integer> answered = new TreeMap<>();
        for (int seed = 0; seed < OBJECTS && wrong < 5; seed++) {
            wrong += run(seed, answered);
        }
        // a call that is only ever refused would prove nothing
        for (String name : NAMES) {
            if (answered.getOrDefault(name, 0) < 100) {
                wrong++;
                System.out.println(name + " was hardly ever answered");
            }
        }
        System.out.println(wrong == 0 ? "both programs answer alike" : "the programs differ");
        if (wrong != 0) {
            System.exit(1);
        }
    }

    private static int run(int seed, TreeMap<String, Integer> answered) {
        Random random = new Random(seed);
        Draw draw = new Draw(random);
        WarmTubes x = new WarmTubes();
        Oracle o = new Oracle();
        StringBuilder pending = new StringBuilder();
        List<String> log = new ArrayList<>();
        int made = 0;
        while (made <= CALLS - MOST_A_TURN) {
            String name;
            int[] a;
            if (pending.length() > 0) {
                name = "feed";
                a = new int[] {pending.charAt(0)};
                pending.deleteCharAt(0);
                if (pending.length() == 0) {
                    pending = new StringBuilder();
                }
            } else if (o.tape.length() > 5 && random.nextInt(8) > 0) {
                name = "house";
                a = new int[0];
            } else if (random.nextInt(o.now == null ? 4 : 150) == 0) {
                pending.append(draw.text());
                continue;
            } else {
                name = NAMES[random.nextInt(NAMES.length)];
                a = draw.arguments(name, o);
            }
            long got = callClass(x, name, a);
            long want = callOracle(o, name, a);
            log.add(name + Arrays.toString(a) + " = " + want);
            if (want > -1000000 || want == -1000000 || want == -1000013) {
                answered.merge(name, 1, Integer::sum);
            }
            made += name.equals("told") ? a.length - 1 : 1;
            boolean looks = FINDING.contains(name) || random.nextInt(8) == 0;
            made += looks ? 2 : 0;
            if (got != want || looks && (x.status() != o.status || x.fault() != o.fault)) {
                System.out.println("object " + seed + ", call " + made + ": " + name + Arrays.toString(a) + " answered "
                    + got + " (status " + x.status() + "), the oracle " + want + " (status " + o.status + ")");
                System.out.println(log.subList(Math.max(0, log.size() - 120), log.size()));
                return 1;
            }
        }
        return 0;
    }

    private static final String[] NAMES = {
        "row", "set", "copy", "drop", "feed", "house", "fault", "undo", "minutes", "carry", "shake", "pour", "stove", "tube",
        "room", "ahead", "upAhead", "chill", "first", "filled", "outs", "shakes", "hang", "fire", "pours", "mix", "degrees",
        "sale", "who", "frosts", "forgotten", "drawn", "image", "restore", "kind", "as", "ask", "trace", "count", "status",
        "minutes", "carry", "shake", "pour", "stove", "told", "minutes", "carry"};

    private static long callClass(WarmTubes x, String name, int[] a) {
        switch (name) {
            case "row": return x.row(a[0], a[1], a[2]);
            case "set": return x.set(a[0], a[1], a[2]);
            case "copy": return x.copy(a[0], a[1], a[2], a[3], a[4]);
            case "drop": return x.drop(a[0]);
            case "feed": return x.feed(a[0]);
            case "house": return x.house();
            case "fault": return x.fault();
            case "undo": return x.undo();
            case "minutes": return x.minutes(a[0]);
            case "carry": return x.carry(a[0], a[1]);
            case "shake": return x.shake(a[0]);
            case "pour": return x.pour(a[0], a[1]);
            case "stove": return x.stove(a[0], a[1]);
            case "tube": return x.tube(a[0], a[1]);
            case "room": return x.room(a[0], a[1]);
            case "ahead": return x.ahead(a[0], a[1]);
            case "upAhead": return x.upAhead(a[0], a[1]);
            case "chill": return x.chill(a[0]);
            case "first": return x.first(a[0]);
            case "filled": return x.filled(a[0]);
            case "outs": return x.outs(a[0], a[1], a[2]);
            case "shakes": return x.shakes(a[0], a[1], a[2]);
            case "hang": return x.hang(a[0], a[1], a[2]);
            case "fire": return x.fire(a[0], a[1]);
            case "pours": return x.pours(a[0], a[1], a[2]);
            case "mix": return x.mix(a[0], a[1], a[2]);
            case "degrees": return x.degrees();
            case "sale": return x.sale(a[0], a[1], a[2], a[3], a[4]);
            case "who": return x.who(a[0], a[1], a[2], a[3], a[4], a[5]);
            case "frosts": return x.frosts(a[0], a[1], a[2], a[3], a[4]);
            case "forgotten": return x.forgotten(a[0], a[1], a[2], a[3]);
            case "drawn": return x.drawn(a[0], a[1], a[2]);
            case "image": return x.image(a[0]);
            case "restore": return x.restore(a[0]);
            case "kind": return x.kind(a[0]);
            case "as": return x.as(a[0], a[1]);
            case "ask": return x.ask(a[0], a[1]);
            case "trace": return x.trace(a[0]);
            case "count": return x.count(a[0]);
            case "told": return tellClass(x, a);
            default: return x.status();
        }
    }

    private static long callOracle(Oracle o, String name, int[] a) {
        switch (name) {
            case "row": case "set": case "copy": case "drop": return o.rowCall(name, a);
            case "feed": case "house": case "fault": case "undo": return o.tellCall(name, a);
            case "minutes": case "carry": case "shake": case "pour": case "stove": return o.act(name, a);
            case "tube": case "room": case "count": case "degrees": case "kind": return o.look(name, a);
            case "image": case "restore": return o.imageCall(name, a);
            case "as": case "ask": case "trace": return o.asked(name, a);
            case "status": return o.status;
            case "told": return o.tellRow(a);
            default: return o.foretell(name, a);
        }
    }

    /** A ROW of what will come, or would if something were otherwise: else who and frosts seldom find anything. */
    private static long tellClass(WarmTubes x, int[] a) {
        long sum = x.row(a[0], a[1], a.length - 2);
        for (int i = 2; i < a.length; i++) {
            sum = 31 * sum + x.set(a[0], i - 2, a[i]);
        }
        return Math.abs(sum % 1000);
    }

    /** Draws arguments: mostly good ones, often just beyond an edge, now and then far away. */
    private static final class Draw {
        final Random random;

        Draw(Random random) {
            this.random = random;
        }

        int pick(int least, int most) {
            int kind = random.nextInt(60);
            if (kind == 0) {
                int[] far = {Integer.MIN_VALUE, Integer.MAX_VALUE, -1, least - 1, most + 1, 1 << 20, -1000001};
                return far[random.nextInt(far.length)];
            }
            if (kind == 1) {
                return most + 1;
            }
            if (kind == 2) {
                return least - 1;
            }
            return kind < 6 ? most : kind < 9 ? least : least + random.nextInt(Math.max(1, most - least + 1));
        }

        int[] arguments(String name, Oracle o) {
            int rooms = o.now == null ? 1 : o.now.rooms.size();
            int tubes = o.now == null ? 1 : o.now.tubes.size();
            int t = pick(0, tubes - 1);
            int r = pick(0, rooms - 1);
            int what = pick(0, 1);
            int near = pick(1, 30);
            switch (name) {
                case "row": return new int[] {pick(0, 7), pick(0, 2), pick(0, 40)};
                case "set": return new int[] {pick(0, 7), pick(0, 12), random.nextBoolean() ? pick(0, 99) : random.nextInt()};
                case "copy": return new int[] {pick(0, 7), pick(0, 12), pick(0, 7), pick(0, 12), pick(0, 12)};
                case "feed": return new int[] {pick(0, 255)};
                case "minutes": return new int[] {random.nextInt(6) > 0 ? pick(1, 3) : pick(1, 24)};
                case "carry": return new int[] {t, pick(0, rooms)};
                case "pour": return new int[] {t, pick(0, tubes - 1)};
                case "stove": return new int[] {r, pick(0, 20)};
                case "tube": return new int[] {t, pick(0, 4)};
                case "room": return new int[] {pick(0, rooms), pick(0, 3)};
                case "ahead": return new int[] {r, pick(0, 60)};
                case "upAhead": return new int[] {t, pick(0, 60)};
                case "outs": case "shakes": return new int[] {r, near, what};
                case "hang": return new int[] {t, near, what};
                case "fire": return new int[] {r, near};
                case "pours": return new int[] {t, pick(0, random.nextBoolean() ? 10 : 40), pick(-1, 3)};
                case "mix": return new int[] {r, pick(0, random.nextBoolean() ? 999 : 60), what};
                case "sale": return new int[] {t, near, pick(1, 99), pick(0, 9), what};
                case "who": return new int[] {t, pick(0, 2), r, pick(0, 7), random.nextInt(4) > 0 ? 0 : pick(0, 40), pick(1, 12)};
                case "frosts": return new int[] {r, what, pick(0, 7), random.nextInt(4) > 0 ? 0 : pick(0, 40), pick(1, 12)};
                case "forgotten": return new int[] {r, pick(0, 30), pick(0, 10), what};
                case "drawn": return new int[] {pick(0, 60), pick(1, 999999), what};
                case "as": return new int[] {t, pick(0, 5)};
                case "ask": return new int[] {t, what};
                case "trace": return new int[] {pick(0, 6)};
                case "count": return new int[] {pick(0, 7)};
                case "first": case "image": case "restore": return new int[] {what};
                case "chill": return new int[] {r};
                case "drop": return new int[] {pick(0, 7)};
                case "told": return told(o, rooms, tubes);
                default: return new int[] {t};
            }
        }

        int[] told(Oracle o, int rooms, int tubes) {
            int[] a = new int[14];
            a[0] = random.nextInt(8);
            a[1] = random.nextInt(3);
            if (o.now == null) {
                return a;
            }
            House h = o.now.twin();
            int t = random.nextInt(tubes);
            switch (random.nextInt(6)) {
                case 0: h.shakeOut(t); break;
                case 1: h.frost = random.nextInt(10); break;
                case 2: h.tubes.get(t).takes = 1 + random.nextInt(9); break;
                case 3: h.tubes.get(t).place = random.nextInt(rooms + 1); break;
                case 4: h.tubes.set(t, h.tubes.get(t).turned(1 + random.nextInt(5))); break;
                default: break;
            }
            int room = random.nextInt(rooms);
            for (int i = 2; i < a.length; i++) {
                h.tick();
                a[i] = h.rooms.get(room)[0];
            }
            return a;
        }

        int upTo(int most) {
            return random.nextInt(most + 1);
        }

        String text() {
            StringBuilder s = new StringBuilder();
            s.append('h').append(upTo(random.nextBoolean() ? 3 : 9)).append(',').append(upTo(random.nextBoolean() ? 20 : 60)).append(';');
            int rooms = 1 + random.nextInt(random.nextInt(3) == 0 ? 6 : 3);
            for (int i = 0; i < rooms; i++) {
                s.append('m').append(upTo(99)).append(',').append(upTo(random.nextBoolean() ? 5 : 20)).append(';');
            }
            int tubes = 1 + random.nextInt(random.nextInt(4) == 0 ? 7 : 6);
            for (int i = 0; i < tubes; i++) {
                s.append("pgswl".charAt(random.nextInt(5))).append(upTo(random.nextBoolean() ? 0 : rooms)).append(',');
                s.append(1 + upTo(8)).append(',').append(1 + upTo(random.nextBoolean() ? 9 : 39)).append(';');
            }
            if (random.nextInt(3) == 0) {
                spoil(s);
            }
            return s.toString();
        }

        void spoil(StringBuilder s) {
            String signs = "0123456789,;,;hmpgswlaz {`/:<+ÿ";
            int at = random.nextInt(s.length());
            switch (random.nextInt(4)) {
                case 0: s.setLength(at); break;
                case 1: s.deleteCharAt(at); break;
                case 2: s.insert(at, signs.charAt(random.nextInt(signs.length()))); break;
                default: s.setCharAt(at, signs.charAt(random.nextInt(signs.length()))); break;
            }
        }
    }

    /** The BODIES that are lent are default methods, the others override: so Java itself finds which begins. */
    private interface Asked {
        int holds();

        int number();

        List<Integer> trail();

        default int size() {
            trail().add(10);
            return holds();
        }

        default int mark() {
            trail().add(20);
            return number();
        }
    }

    private abstract static class Tube implements Asked {
        int number;
        int place;
        int takes;
        int holds;
        int up;
        List<Integer> trail = new ArrayList<>();

        public int holds() {
            return holds;
        }

        public int number() {
            return number;
        }

        public List<Integer> trail() {
            return trail;
        }

        abstract int wish(House h);

        int gives() {
            return 0;
        }

        static Tube of(int kind) {
            switch (kind) {
                case 1: return new Plain();
                case 2: return new Greedy();
                case 3: return new Slow();
                case 4: return new Wrapped();
                default: return new Leaking();
            }
        }

        int kindNumber() {
            return 1 + Arrays.asList(Plain.class, Greedy.class, Slow.class, Wrapped.class, Leaking.class).indexOf(getClass());
        }

        Tube turned(int kind) {
            Tube t = of(kind);
            t.number = number;
            t.place = place;
            t.takes = takes;
            t.holds = holds;
            t.up = up;
            return t;
        }
    }

    private static class Plain extends Tube {
        int wish(House h) {
            return takes;
        }

        public int size() {
            trail.add(11);
            int lent = super.size();
            return lent + mark();
        }

        public int mark() {
            trail.add(21);
            return super.mark() + up;
        }
    }

    private static final class Greedy extends Plain {
        int wish(House h) {
            return takes + (up - up % 10) / 10;
        }

        public int size() {
            trail.add(12);
            return 0 - super.size();
        }

        public int mark() {
            trail.add(24);
            return 2 * super.mark();
        }
    }

    private static final class Slow extends Plain {
        int wish(House h) {
            return (h.minute & 1) == 1 ? 0 : takes;
        }

        public int mark() {
            trail.add(22);
            return super.mark() - 1000;
        }
    }

    private static class Wrapped extends Tube {
        int wish(House h) {
            return h.isWarm(place) ? takes : 0;
        }

        public int size() {
            trail.add(13);
            return super.size() - 100;
        }

        public int mark() {
            trail.add(23);
            int lent = super.mark();
            return lent - size();
        }
    }

    private static final class Leaking extends Wrapped {
        int gives() {
            return Math.min(up, 1);
        }

        public int size() {
            trail.add(14);
            return 2 * super.size();
        }
    }

    private static final class House {
        int frost;
        int cold;
        int minute;
        /** WARMTH, STOVE of each ROOM. */
        List<int[]> rooms = new ArrayList<>();
        List<Tube> tubes = new ArrayList<>();

        House twin() {
            House h = new House();
            h.frost = frost;
            h.cold = cold;
            h.minute = minute;
            for (int[] r : rooms) {
                h.rooms.add(r.clone());
            }
            for (Tube t : tubes) {
                h.tubes.add(t.turned(t.kindNumber()));
            }
            return h;
        }

        House later(int n) {
            House h = twin();
            for (int i = 0; i < n; i++) {
                h.tick();
            }
            return h;
        }

        boolean isWarm(int place) {
            return place < rooms.size() && rooms.get(place)[0] > cold;
        }

        void tick() {
            for (Tube t : tubes) {
                boolean out = t.place == rooms.size();
                int given = t.gives();
                t.up -= given;
                if (!out) {
                    int[] r = rooms.get(t.place);
                    r[0] += given;
                    for (int wish = t.wish(this); wish > 0 && r[0] > 0 && t.up < t.holds; wish--) {
                        r[0]--;
                        t.up++;
                    }
                }
            }
            for (int[] r : rooms) {
                r[0] = r[0] < frost ? 0 : r[0] - frost;
                r[0] = r[0] + r[1] > 999 ? 999 : r[0] + r[1];
            }
            minute++;
        }

        void shakeOut(int t) {
            Tube one = tubes.get(t);
            if (one.place < rooms.size()) {
                int[] r = rooms.get(one.place);
                r[0] = r[0] + one.up > 999 ? 999 : r[0] + one.up;
            }
            one.up = 0;
        }

        int pourOver(int a, int b) {
            Tube one = tubes.get(a);
            Tube other = tubes.get(b);
            int much = 0;
            while (a != b && one.place == other.place && one.up > 0 && other.up < other.holds) {
                one.up--;
                other.up++;
                much++;
            }
            return much;
        }

        int coldBits() {
            int bits = 0;
            for (int r = 0; r < rooms.size(); r++) {
                bits += isWarm(r) ? 0 : 1 << r;
            }
            return bits;
        }

        int upAll() {
            return tubes.stream().mapToInt(t -> t.up).sum();
        }

        int degreesAll() {
            return upAll() + rooms.stream().mapToInt(r -> r[0]).sum();
        }
    }

    private static final class Oracle {
        static final int NONE = -1000000, BAD = -1000001, STATE = -1000002, FULL = -1000003;

        House now;
        House[] images = new House[2];
        Deque<House> acts = new ArrayDeque<>();
        Object[] rows = new Object[8];
        StringBuilder tape = new StringBuilder();
        List<Integer> trail = new ArrayList<>();
        int status;
        int fault;

        static boolean in(int n, int least, int most) {
            return least <= n && n <= most;
        }

        boolean tubeIs(int t) {
            return now != null && in(t, 0, now.tubes.size() - 1);
        }

        boolean roomIs(int r) {
            return now != null && in(r, 0, now.rooms.size() - 1);
        }

        boolean placeIs(int r) {
            return now != null && in(r, 0, now.rooms.size());
        }

        int find(int number) {
            status = number;
            return -1000010 - number;
        }

        static int length(Object row) {
            return java.lang.reflect.Array.getLength(row);
        }

        static int item(Object row, int i) {
            return java.lang.reflect.Array.getInt(row, i);
        }

        long rowCall(String name, int[] a) {
            boolean good = in(a[0], 0, 7) && (!name.equals("copy") || in(a[2], 0, 7))
                && (!name.equals("row") || in(a[1], 0, 2) && a[2] <= 40);
            if (!good) {
                return BAD;
            }
            long answer;
            // here the machine's own exceptions are the findings, in its own order
            try {
                answer = rowAct(name, a);
            } catch (NullPointerException e) {
                return find(1);
            } catch (ArrayIndexOutOfBoundsException e) {
                return find(2);
            } catch (NegativeArraySizeException e) {
                return find(4);
            } catch (ArrayStoreException e) {
                return find(5);
            }
            status = 0;
            return answer;
        }

        private long rowAct(String name, int[] a) {
            Object row = rows[a[0]];
            switch (name) {
                case "row":
                    rows[a[0]] = a[1] == 0 ? new byte[a[2]] : a[1] == 1 ? new short[a[2]] : new int[a[2]];
                    return a[2];
                case "drop":
                    rows[a[0]] = null;
                    return length(row);
                case "copy":
                    System.arraycopy(row, a[1], rows[a[2]], a[3], a[4]);
                    return a[4];
                default:
                    if (row instanceof byte[] bytes) {
                        bytes[a[1]] = (byte) a[2];
                    } else if (row instanceof short[] shorts) {
                        shorts[a[1]] = (short) a[2];
                    } else {
                        ((int[]) row)[a[1]] = a[2];
                    }
                    return item(row, a[1]);
            }
        }

        long tellRow(int[] a) {
            long sum = rowCall("row", new int[] {a[0], a[1], a.length - 2});
            for (int i = 2; i < a.length; i++) {
                sum = 31 * sum + rowCall("set", new int[] {a[0], i - 2, a[i]});
            }
            return Math.abs(sum % 1000);
        }

        long tellCall(String name, int[] a) {
            switch (name) {
                case "feed":
                    if (!in(a[0], 0, 255)) {
                        return BAD;
                    }
                    if (tape.length() == 120) {
                        return FULL;
                    }
                    tape.append((char) a[0]);
                    return tape.length();
                case "house": {
                    String text = tape.toString();
                    tape.setLength(0);
                    return readHouse(text);
                }
                case "fault":
                    return fault;
                default:
                    if (acts.isEmpty()) {
                        return STATE;
                    }
                    now = acts.removeLast();
                    return acts.size();
            }
        }

        long readHouse(String text) {
            House h = new House();
            int[] numbers = new int[3];
            int many = 0;
            int at = 0;
            String due = "h";
            char piece = ' ';
            Matcher m = Pattern.compile("[0-9]+|[a-z]|[,;]|.", Pattern.DOTALL).matcher(text);
            while (m.find()) {
                at = m.start();
                String token = m.group();
                boolean isNumber = token.matches("[0-9]{1,2}");
                if (due.equals("#") ? !isNumber : token.length() != 1 || due.indexOf(token.charAt(0)) < 0) {
                    return faulty(1, at);
                }
                if (isNumber) {
                    int v = Integer.parseInt(token);
                    if (!isTold(h, piece, many, v)) {
                        return faulty(2, at);
                    }
                    numbers[many++] = v;
                    due = many == ("hm".indexOf(piece) >= 0 ? 2 : 3) ? ";" : ",";
                } else if (token.equals(",")) {
                    due = "#";
                } else if (token.equals(";")) {
                    addPiece(h, piece, numbers);
                    due = piece == 'h' ? "m" : piece == 'm' ? "mpgswl" : "pgswl";
                } else {
                    piece = token.charAt(0);
                    if (piece == 'm' ? h.rooms.size() == 5 : h.tubes.size() == 6) {
                        return faulty(3, at);
                    }
                    many = 0;
                    due = "#";
                }
            }
            if (!due.equals("pgswl")) {
                return faulty(1, text.length());
            }
            now = h;
            acts.clear();
            return h.tubes.size();
        }

        private long faulty(int number, int at) {
            fault = number;
            return -1000100 - at;
        }

        private static boolean isTold(House h, char piece, int which, int v) {
            if (piece == 'h') {
                return v <= (which == 0 ? 9 : 60);
            }
            if (piece == 'm') {
                return v <= (which == 0 ? 99 : 20);
            }
            return which == 0 ? v <= h.rooms.size() : v >= 1 && v <= (which == 1 ? 9 : 40);
        }

        private static void addPiece(House h, char piece, int[] v) {
            if (piece == 'h') {
                h.frost = v[0];
                h.cold = v[1];
            } else if (piece == 'm') {
                h.rooms.add(new int[] {v[0], v[1]});
            } else {
                Tube t = Tube.of(1 + "pgswl".indexOf(piece));
                t.number = h.tubes.size();
                t.place = v[0];
                t.takes = v[1];
                t.holds = v[2];
                h.tubes.add(t);
            }
        }

        private void keep() {
            acts.addLast(now.twin());
            if (acts.size() > 24) {
                acts.removeFirst();
            }
        }

        long act(String name, int[] a) {
            switch (name) {
                case "minutes":
                    if (now == null) {
                        return STATE;
                    }
                    if (!in(a[0], 1, 24)) {
                        return BAD;
                    }
                    if (now.minute + a[0] >= 1000) {
                        return FULL;
                    }
                    for (int i = 0; i < a[0]; i++) {
                        keep();
                        now.tick();
                    }
                    return now.coldBits();
                case "carry":
                    if (!tubeIs(a[0]) || !placeIs(a[1])) {
                        return BAD;
                    }
                    int from = now.tubes.get(a[0]).place;
                    if (from == a[1]) {
                        return STATE;
                    }
                    keep();
                    now.tubes.get(a[0]).place = a[1];
                    return from;
                case "shake":
                    if (!tubeIs(a[0])) {
                        return BAD;
                    }
                    int had = now.tubes.get(a[0]).up;
                    if (had == 0) {
                        return STATE;
                    }
                    keep();
                    now.shakeOut(a[0]);
                    return had;
                case "pour":
                    if (!tubeIs(a[0]) || !tubeIs(a[1]) || a[0] == a[1]) {
                        return BAD;
                    }
                    if (now.twin().pourOver(a[0], a[1]) == 0) {
                        return STATE;
                    }
                    keep();
                    return now.pourOver(a[0], a[1]);
                default:
                    if (!roomIs(a[0]) || !in(a[1], 0, 20)) {
                        return BAD;
                    }
                    keep();
                    int was = now.rooms.get(a[0])[1];
                    now.rooms.get(a[0])[1] = a[1];
                    return was;
            }
        }

        private int inside(int place) {
            int bits = 0;
            for (Tube t : now.tubes) {
                bits += t.place == place ? 1 << t.number : 0;
            }
            return bits;
        }

        long look(String name, int[] a) {
            switch (name) {
                case "tube":
                    if (!tubeIs(a[0]) || !in(a[1], 0, 4)) {
                        return BAD;
                    }
                    Tube t = now.tubes.get(a[0]);
                    return new int[] {t.place, t.takes, t.holds, t.up, t.wish(now)}[a[1]];
                case "room":
                    if (!placeIs(a[0]) || !in(a[1], 0, 3) || !roomIs(a[0]) && a[1] != 3) {
                        return BAD;
                    }
                    if (a[1] == 3) {
                        return inside(a[0]);
                    }
                    int[] r = now.rooms.get(a[0]);
                    return new int[] {r[0], r[1], r[0] <= now.cold ? 1 : 0}[a[1]];
                case "degrees":
                    return now == null ? STATE : now.degreesAll();
                case "kind":
                    return tubeIs(a[0]) ? now.tubes.get(a[0]).kindNumber() : BAD;
                default:
                    if (!in(a[0], 0, 7)) {
                        return BAD;
                    }
                    House h = now == null ? new House() : now;
                    int present = 0;
                    for (Object row : rows) {
                        present += row == null ? 0 : 1;
                    }
                    return new int[] {present, h.rooms.size(), h.tubes.size(), h.minute, h.coldBits(), h.upAll(), acts.size(),
                        tape.length()}[a[0]];
            }
        }

        long imageCall(String name, int[] a) {
            if (!in(a[0], 0, 1)) {
                return BAD;
            }
            if (name.equals("image")) {
                if (now == null) {
                    return STATE;
                }
                images[a[0]] = now.twin();
                return 1;
            }
            if (images[a[0]] == null) {
                return STATE;
            }
            now = images[a[0]].twin();
            acts.clear();
            return 1;
        }

        long asked(String name, int[] a) {
            if (name.equals("trace")) {
                return in(a[0], 0, Math.min(16, trail.size()) - 1) ? trail.get(a[0]) : NONE;
            }
            if (!tubeIs(a[0]) || !in(a[1], 0, name.equals("as") ? 5 : 1)) {
                return BAD;
            }
            Tube t = now.tubes.get(a[0]);
            if (name.equals("as")) {
                Class<?>[] kinds = {Tube.class, Plain.class, Greedy.class, Slow.class, Wrapped.class, Leaking.class};
                if (!kinds[a[1]].isInstance(t)) {
                    return find(3);
                }
                status = 0;
                return a[0];
            }
            t.trail = new ArrayList<>();
            int answer = a[1] == 0 ? t.size() : t.mark();
            trail = t.trail;
            return answer;
        }

        long foretell(String name, int[] a) {
            switch (name) {
                case "ahead":
                    return roomIs(a[0]) && in(a[1], 0, 60) ? now.later(a[1]).rooms.get(a[0])[0] : BAD;
                case "upAhead":
                    return tubeIs(a[0]) && in(a[1], 0, 60) ? now.later(a[1]).tubes.get(a[0]).up : BAD;
                case "chill":
                    return roomIs(a[0]) ? chillOf(a[0]) : BAD;
                case "first":
                    return firstOf(a[0]);
                case "filled":
                    return filledOf(a[0]);
                case "outs":
                    return roomIs(a[0]) && in(a[1], 1, 30) && in(a[2], 0, 1) ? outsOf(a) : BAD;
                case "shakes":
                    return roomIs(a[0]) && in(a[1], 1, 30) && in(a[2], 0, 1) ? shakesOf(a) : BAD;
                case "hang":
                    return tubeIs(a[0]) && in(a[1], 1, 30) && in(a[2], 0, 1) ? hangOf(a) : BAD;
                case "fire":
                    return roomIs(a[0]) && in(a[1], 1, 30) ? fireOf(a) : BAD;
                case "pours":
                    return tubeIs(a[0]) && in(a[1], 0, 40) && a[2] >= -1 ? poursOf(a) : BAD;
                case "mix":
                    return roomIs(a[0]) && in(a[1], 0, 999) && in(a[2], 0, 1) ? mixOf(a) : BAD;
                case "sale":
                    return tubeIs(a[0]) && in(a[1], 1, 30) && in(a[2], 1, 99) && in(a[3], 0, 9) && in(a[4], 0, 1) ? saleOf(a) : BAD;
                case "who":
                    return tubeIs(a[0]) && in(a[1], 0, 2) && roomIs(a[2]) && in(a[3], 0, 7) && in(a[5], 1, 12) ? whoOf(a) : BAD;
                case "frosts":
                    return roomIs(a[0]) && in(a[1], 0, 1) && in(a[2], 0, 7) && in(a[4], 1, 12) ? frostsOf(a) : BAD;
                case "forgotten":
                    return roomIs(a[0]) && in(a[1], 0, 30) && in(a[2], 0, 10) && in(a[3], 0, 1) ? forgottenOf(a) : BAD;
                default:
                    return drawnOf(a);
            }
        }

        private int chillOf(int room) {
            for (int n = 0; n <= 60; n++) {
                if (!now.later(n).isWarm(room)) {
                    return n;
                }
            }
            return NONE;
        }

        private int firstOf(int what) {
            if (now == null) {
                return STATE;
            }
            if (!in(what, 0, 1)) {
                return BAD;
            }
            int best = NONE;
            int which = NONE;
            for (int r = 0; r < now.rooms.size(); r++) {
                int chill = chillOf(r);
                if (chill != NONE && (best == NONE || chill < best)) {
                    best = chill;
                    which = r;
                }
            }
            return what == 0 ? which : best;
        }

        private int filledOf(int t) {
            if (!tubeIs(t)) {
                return BAD;
            }
            for (int n = 0; n <= 60; n++) {
                Tube one = now.later(n).tubes.get(t);
                if (one.up >= one.holds) {
                    return n;
                }
            }
            return NONE;
        }

        private static int toldSet(int set, int what) {
            return set == NONE || what == 1 ? set : Integer.bitCount(set);
        }

        private int outsOf(int[] a) {
            int best = NONE;
            int step = now.rooms.size();
            for (int size = 0; size <= 6 && best == NONE; size++) {
                for (int set = 63; set >= 0; set--) {
                    if (Integer.bitCount(set) == size && set >> now.tubes.size() == 0 && (set & inside(step)) == 0) {
                        House h = now.twin();
                        for (Tube t : h.tubes) {
                            t.place = (set >> t.number & 1) == 1 ? step : t.place;
                        }
                        boolean warm = true;
                        for (int n = 1; n <= a[1]; n++) {
                            h.tick();
                            warm &= h.isWarm(a[0]);
                        }
                        best = warm ? set : best;
                    }
                }
            }
            return toldSet(best, a[2]);
        }

        private int shakesOf(int[] a) {
            int best = NONE;
            for (int size = 0; size <= 6 && best == NONE; size++) {
                for (int set = 63; set >= 0; set--) {
                    if (Integer.bitCount(set) == size && (set | inside(a[0])) == inside(a[0])) {
                        House h = now.twin();
                        for (Tube t : h.tubes) {
                            if ((set >> t.number & 1) == 1) {
                                h.shakeOut(t.number);
                            }
                        }
                        best = h.later(a[1]).isWarm(a[0]) ? set : best;
                    }
                }
            }
            return toldSet(best, a[2]);
        }

        private int hangOf(int[] a) {
            int[] much = new int[now.rooms.size() + 1];
            for (int place = 0; place < much.length; place++) {
                House h = now.twin();
                h.tubes.get(a[0]).place = place;
                much[place] = h.later(a[1]).tubes.get(a[0]).up;
            }
            int most = Arrays.stream(much).max().getAsInt();
            int where = 0;
            while (much[where] != most) {
                where++;
            }
            return a[2] == 0 ? where : most;
        }

        private int fireOf(int[] a) {
            int least = NONE;
            for (int heat = 20; heat >= 0; heat--) {
                House h = now.twin();
                h.rooms.get(a[0])[1] = heat;
                least = h.later(a[1]).isWarm(a[0]) ? heat : least;
            }
            return least;
        }

        /** Breadth first, whole rows, all of each length in the order of their numbers. */
        private int poursOf(int[] a) {
            List<House> houses = new ArrayList<>(List.of(now.twin()));
            List<int[]> told = new ArrayList<>(List.of(new int[0]));
            for (int steps = 0; steps <= 3; steps++) {
                for (int i = 0; i < houses.size(); i++) {
                    if (houses.get(i).tubes.get(a[0]).up == a[1]) {
                        int[] row = told.get(i);
                        return a[2] == -1 ? row.length : a[2] < row.length ? row[a[2]] : NONE;
                    }
                }
                List<House> next = new ArrayList<>();
                List<int[]> nextTold = new ArrayList<>();
                for (int i = 0; i < houses.size() && steps < 3; i++) {
                    for (int code = 0; code < 66; code++) {
                        spread(a[0], code, houses.get(i), told.get(i), next, nextTold);
                    }
                }
                houses = next;
                told = nextTold;
            }
            return NONE;
        }

        private void spread(int tube, int code, House h, int[] told, List<House> next, List<int[]> nextTold) {
            int one = code / 10;
            int other = code % 10;
            if (!tubeIs(one) || !tubeIs(other) || h.tubes.get(one).place != h.tubes.get(tube).place) {
                return;
            }
            House then = h.twin();
            if (then.pourOver(one, other) > 0) {
                int[] row = Arrays.copyOf(told, told.length + 1);
                row[told.length] = code;
                next.add(then);
                nextTold.add(row);
            }
        }

        private int mixOf(int[] a) {
            int many = 0;
            int least = NONE;
            for (int set = 63; set >= 0; set--) {
                if ((set | inside(a[0])) == inside(a[0])) {
                    House h = now.twin();
                    for (Tube t : h.tubes) {
                        if ((set >> t.number & 1) == 1) {
                            h.shakeOut(t.number);
                        }
                    }
                    if (h.rooms.get(a[0])[0] == a[1]) {
                        many++;
                        least = set;
                    }
                }
            }
            return a[2] == 0 ? many : least;
        }

        private int saleOf(int[] a) {
            int when = a[1];
            int most = -1;
            for (int n = a[1]; n >= 0; n--) {
                int price = a[2];
                for (int i = 0; i < n; i++) {
                    price = price < a[3] ? 0 : price - a[3];
                }
                int worth = price * now.later(n).tubes.get(a[0]).up;
                if (worth >= most) {
                    most = worth;
                    when = n;
                }
            }
            return a[4] == 0 ? when : most;
        }

        private int reached(int row, int i, int n) {
            if (rows[row] == null) {
                return find(1);
            }
            if ((long) i < 0 || (long) i + n > length(rows[row])) {
                return find(2);
            }
            status = 0;
            return 0;
        }

        private boolean fits(House h, int room, int row, int i, int n) {
            int[] seen = new int[n];
            int[] told = new int[n];
            for (int k = 0; k < n; k++) {
                seen[k] = h.later(k + 1).rooms.get(room)[0];
                told[k] = item(rows[row], i + k);
            }
            return Arrays.equals(seen, told);
        }

        private int whoOf(int[] a) {
            int finding = reached(a[3], a[4], a[5]);
            if (finding != 0) {
                return finding;
            }
            int bits = 0;
            for (int v = 0; v < 10; v++) {
                House h = now.twin();
                Tube t = h.tubes.get(a[0]);
                if (a[1] == 0 && in(v, 1, 5)) {
                    h.tubes.set(a[0], t.turned(v));
                } else if (a[1] == 1 && v > 0) {
                    t.takes = v;
                } else if (a[1] == 2 && v <= now.rooms.size()) {
                    t.place = v;
                } else {
                    continue;
                }
                bits += fits(h, a[2], a[3], a[4], a[5]) ? 1 << v : 0;
            }
            return bits;
        }

        private int frostsOf(int[] a) {
            int finding = reached(a[2], a[3], a[4]);
            if (finding != 0) {
                return finding;
            }
            int bits = a[1] == 1 && fits(now, a[0], a[2], a[3], a[4]) ? 64 : 0;
            for (int v = 0; v < (a[1] == 0 ? 10 : now.tubes.size()); v++) {
                House h = now.twin();
                if (a[1] == 0) {
                    h.frost = v;
                } else {
                    h.shakeOut(v);
                }
                bits += fits(h, a[0], a[2], a[3], a[4]) ? 1 << v : 0;
            }
            return bits;
        }

        /** Tube by tube, each forgotten or not: a tree of all cases. */
        private BigInteger cases(House h, int t, int[] a) {
            if (t == h.tubes.size()) {
                return h.later(a[1]).isWarm(a[0]) ? BigInteger.ONE : BigInteger.ZERO;
            }
            BigInteger left = cases(h, t + 1, a);
            if (h.tubes.get(t).place == h.rooms.size()) {
                return left.multiply(BigInteger.TEN);
            }
            House out = h.twin();
            out.tubes.get(t).place = h.rooms.size();
            BigInteger taken = cases(out, t + 1, a);
            return left.multiply(BigInteger.valueOf(a[2])).add(taken.multiply(BigInteger.valueOf(10 - a[2])));
        }

        private long forgottenOf(int[] a) {
            BigInteger above = cases(now.twin(), 0, a);
            BigInteger below = BigInteger.TEN.pow(now.tubes.size());
            BigInteger part = above.gcd(below);
            return (a[3] == 0 ? above : below).divide(part).longValueExact();
        }

        private int drawnOf(int[] a) {
            if (now == null) {
                return STATE;
            }
            if (!in(a[0], 0, 60) || !in(a[1], 1, 999999) || !in(a[2], 0, 1)) {
                return BAD;
            }
            House h = now.twin();
            BigInteger x = BigInteger.valueOf(a[1]);
            for (int n = 0; n < a[0]; n++) {
                x = x.multiply(BigInteger.valueOf(16807)).mod(BigInteger.valueOf(2147483647));
                int drawn = x.intValueExact();
                int t = drawn % h.tubes.size();
                if (drawn % 4 == 0) {
                    h.shakeOut(t);
                }
                if (drawn % 5 == 0) {
                    h.tubes.get(t).place = drawn % h.rooms.size();
                }
                h.tick();
            }
            return a[2] == 0 ? Integer.bitCount(h.coldBits()) : h.degreesAll();
        }
    }
}
