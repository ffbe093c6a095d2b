import java.math.BigInteger;
import java.util.ArrayList;
import java.util.List;
import java.util.TreeSet;
import java.util.function.Consumer;
import java.util.regex.Matcher;
import java.util.regex.Pattern;

/** The document written a second time, with all of Java: classes for KINDS, throws for refusals, copies for tries. */
public final class GaolModel {
    private static final class Refused extends RuntimeException {
        final int answer;

        Refused(int answer) {
            super(null, null, false, false);
            this.answer = answer;
        }
    }

    private static void need(boolean holds, int otherwise) {
        if (!holds) {
            throw new Refused(otherwise);
        }
    }

    private interface Call {
        int go();
    }

    private static int answer(Call call) {
        try {
            return call.go();
        } catch (Refused r) {
            return r.answer;
        }
    }

    // ---- KINDS ----

    private static class Inmate {
        Person me;
        List<Integer> ran = new ArrayList<>();

        int needs(World w) { return w.rites.get(me.room); }
        int pays(World w) { return w.law[2]; }
        int gains(World w) { return w.law[1]; }
        int bows(int x) { ran.add(10); return x * 4 - me.number; }
        int thanks(int x) { ran.add(11); return bows(x) + me.room; }
        int parts(int x) {
            ran.add(12);
            if (me.room == me.number) {
                throw new ArithmeticException();
            }
            return x / (me.room - me.number);
        }
        int leaves(int x) { ran.add(13); return thanks(x) ^ 180; }
    }

    private static class Burglar extends Inmate {
        @Override int needs(World w) { return super.needs(w) + w.law[0]; }
        @Override int pays(World w) { return super.pays(w) + 1; }
        @Override int thanks(int x) { ran.add(20); return super.thanks(x) * 2; }
    }

    private static class Duellist extends Inmate {
        @Override int needs(World w) { return super.needs(w) / 2; }
        @Override int pays(World w) { return super.pays(w) - 3; }
        @Override int gains(World w) { return super.gains(w) + 2; }
        @Override int bows(int x) { ran.add(30); return super.bows(x) ^ 1; }
        @Override int leaves(int x) { ran.add(31); return super.leaves(x) + parts(me.number); }
    }

    private static final class Forger extends Burglar {
        @Override int needs(World w) { return super.needs(w) - me.grace / 10; }
        @Override int pays(World w) { return super.pays(w) * 2; }
        @Override int gains(World w) { return super.gains(w) - 1; }
        @Override int parts(int x) { ran.add(50); return super.parts(x * 3) - 1; }
        @Override int bows(int x) { ran.add(51); return super.bows(x) + 8; }
    }

    private static final class Nun extends Duellist {
        @Override int needs(World w) {
            int others = 0;
            for (Person p : w.people) {
                if (p != me && p.room == me.room) {
                    others++;
                }
            }
            return super.needs(w) + others;
        }
        @Override int pays(World w) { return super.pays(w) - w.law[2]; }
        @Override int gains(World w) { return super.gains(w) + w.law[0]; }
        @Override int bows(int x) { ran.add(40); return 0 - super.bows(x); }
        @Override int thanks(int x) { ran.add(41); return super.thanks(x) - bows(me.room); }
    }

    private static final class Child extends Inmate {
        @Override int needs(World w) { return (w.occasion & 1) == 0 ? super.needs(w) : 0; }
        @Override int pays(World w) { return 0; }
        @Override int gains(World w) { return super.gains(w) * 2; }
        @Override int leaves(int x) { ran.add(60); return super.leaves(x) - x; }
        @Override int parts(int x) { ran.add(61); return super.parts(x) + bows(me.number); }
    }

    private static final List<Class<? extends Inmate>> KINDS =
        List.of(Inmate.class, Burglar.class, Duellist.class, Forger.class, Nun.class, Child.class);

    private static final class Person {
        final int number;
        int kind;
        int grace;
        int room;
        Integer waits = null;

        Person(int number, int kind, int grace, int room) {
            this.number = number;
            this.kind = kind;
            this.grace = grace;
            this.room = room;
        }

        Inmate thing() {
            Inmate thing = switch (kind) {
                case 0 -> new Inmate();
                case 1 -> new Burglar();
                case 2 -> new Duellist();
                case 3 -> new Forger();
                case 4 -> new Nun();
                default -> new Child();
            };
            thing.me = this;
            return thing;
        }
    }

    private static final class World {
        int[] law = {2, 3, 2, 20};
        List<Integer> rites = new ArrayList<>(List.of(10, 10, 10, 10, 10, 10, 10, 10));
        List<Person> people = new ArrayList<>();
        int occasion = 0;
        int z = 1;

        World copy() {
            World w = new World();
            w.law = law.clone();
            w.rites = new ArrayList<>(rites);
            for (Person p : people) {
                Person q = new Person(p.number, p.kind, p.grace, p.room);
                q.waits = p.waits;
                w.people.add(q);
            }
            w.occasion = occasion;
            w.z = z;
            return w;
        }

        Person get(int i) {
            need(i >= 0 && i < people.size(), -1);
            return people.get(i);
        }

        boolean held(Person p) {
            return p.waits != null && p.room < 8 && people.get(p.waits).room == p.room;
        }

        World after(int n) {
            for (int k = 0; k < n; k++) {
                for (Person p : people) {
                    if (p.room == 8) {
                        continue;
                    }
                    Inmate t = p.thing();
                    if (!held(p) && p.grace >= t.needs(this)) {
                        p.grace = clamp(p.grace - t.pays(this));
                        p.room = p.room + 1;
                    } else {
                        p.grace = clamp(p.grace + t.gains(this));
                    }
                }
                occasion++;
            }
            return this;
        }

        World afterDraws() {
            if (!people.isEmpty()) {
                Person p = people.get(draw() % people.size());
                boolean sneeze = draw() % 100 < law[3];
                if (sneeze && p.room != 8) {
                    p.room++;
                }
            }
            return after(1);
        }

        int draw() {
            z = (int) (z * 1103515245L + 12345L);
            return (int) ((z & 0xffffffffL) >> 16);
        }

        int out() {
            return (int) people.stream().filter(p -> p.room == 8).count();
        }

        int outSet() {
            return people.stream().filter(p -> p.room == 8).mapToInt(p -> 1 << p.number).sum();
        }
    }

    private static int clamp(int v) {
        return v < 0 ? 0 : v > 99 ? 99 : v;
    }

    private static void range(int v, int low, int high) {
        need(v >= low && v <= high, -1);
    }

    private World now = new World();
    private World kept = null;
    private StringBuilder tape = new StringBuilder();
    private List<int[]> rows = new ArrayList<>();
    private final Object[] sheets = new Object[4];
    private final Object[] shelves = new Object[4];
    private List<Integer> trace = new ArrayList<>();

    // ---- the text ----

    public int feed(long eight, int n) {
        return answer(() -> {
            range(n, 1, 8);
            need(tape.length() + n <= 200, -2);
            for (int k = 0; k < n; k++) {
                tape.append((char) (eight >> 8 * k & 255));
            }
            return tape.length();
        });
    }

    private static final class Told {
        final List<String> words = new ArrayList<>();
        final List<Integer> places = new ArrayList<>();
        int at = 0;

        Told(String text) {
            Matcher m = Pattern.compile("[a-z]+|[0-9]+|[^ ]", Pattern.DOTALL).matcher(text);
            while (m.find()) {
                words.add(m.group());
                places.add(m.start());
            }
            words.add("");
            places.add(text.length());
        }

        String peek() { return words.get(at); }
        void fault() { throw new Refused(-100 - places.get(at)); }

        void expect(String word) {
            if (!peek().equals(word)) {
                fault();
            }
            at++;
        }

        int number(int top, int not) {
            if (!peek().matches("[0-9]{1,3}") || Integer.parseInt(peek()) > top || Integer.parseInt(peek()) == not) {
                fault();
            }
            return Integer.parseInt(words.get(at++));
        }
    }

    public int gaol() {
        String text = tape.toString();
        tape = new StringBuilder();
        return answer(() -> {
            World w = new World();
            w.z = now.z;
            Told t = new Told(text);
            List<String> kinds = List.of("inmate", "burglar", "duellist", "forger", "nun", "child");
            List<String> laws = List.of("strict", "ease", "due", "sneeze");
            while (!t.peek().isEmpty()) {
                String word = t.peek();
                if (kinds.contains(word)) {
                    if (w.people.size() == 8) {
                        t.fault();
                    }
                    t.at++;
                    t.expect("in");
                    int room = t.number(7, -1);
                    int grace = 5;
                    if (t.peek().equals("grace")) {
                        t.at++;
                        grace = t.number(99, -1);
                    }
                    t.expect(";");
                    w.people.add(new Person(w.people.size(), kinds.indexOf(word), grace, room));
                } else if (laws.contains(word)) {
                    t.at++;
                    int v = t.number(word.equals("sneeze") ? 99 : 9, -1);
                    t.expect(";");
                    w.law[laws.indexOf(word)] = v;
                } else if (word.equals("rite")) {
                    t.at++;
                    int room = t.number(7, -1);
                    t.expect("is");
                    int v = t.number(99, -1);
                    t.expect(";");
                    w.rites.set(room, v);
                } else {
                    t.expect("wait");
                    int one = t.number(w.people.size() - 1, -1);
                    t.expect("for");
                    int other = t.number(w.people.size() - 1, one);
                    t.expect(";");
                    w.people.get(one).waits = other;
                }
            }
            now = w;
            rows = new ArrayList<>();
            return w.people.size();
        });
    }

    // ---- LAWS, INMATES, ROOMS ----

    public int set(int law, int v) {
        return answer(() -> {
            range(law, 0, 3);
            range(v, 0, law == 3 ? 99 : 9);
            int was = now.law[law];
            now.law[law] = v;
            return was;
        });
    }

    public int lawOf(int law) {
        return answer(() -> {
            range(law, 0, 3);
            return now.law[law];
        });
    }

    public int inmate(int kind, int grace, int room) {
        return answer(() -> {
            range(kind, 0, 5);
            range(grace, 0, 99);
            range(room, 0, 7);
            need(now.people.size() < 8, -2);
            now.people.add(new Person(now.people.size(), kind, grace, room));
            return now.people.size() - 1;
        });
    }

    public int of(int inmate, int what) {
        return answer(() -> {
            Person p = now.get(inmate);
            range(what, 0, 4);
            return new int[] {p.kind, p.grace, p.room, p.waits == null ? 0 : p.waits + 1, now.held(p) ? 1 : 0}[what];
        });
    }

    public int does(int inmate, int what) {
        return answer(() -> {
            Person p = now.get(inmate);
            range(what, 0, 2);
            need(what != 0 || p.room != 8, -3);
            Inmate t = p.thing();
            return 1000 + (what == 0 ? t.needs(now) : what == 1 ? t.pays(now) : t.gains(now));
        });
    }

    public int mind(int inmate, int kind) {
        return answer(() -> {
            range(kind, 0, 5);
            Person p = now.get(inmate);
            int was = p.kind;
            p.kind = kind;
            return was;
        });
    }

    public int grace(int inmate, int v) {
        return answer(() -> {
            range(v, 0, 99);
            Person p = now.get(inmate);
            int was = p.grace;
            p.grace = v;
            return was;
        });
    }

    public int bring(int inmate, int room) {
        return answer(() -> {
            range(room, 0, 8);
            Person p = now.get(inmate);
            int was = p.room;
            p.room = room;
            return was;
        });
    }

    public int await(int inmate, int other) {
        return answer(() -> {
            now.get(other);
            Person p = now.get(inmate);
            need(inmate != other, -1);
            boolean did = p.waits != null && p.waits == other;
            p.waits = other;
            return did ? 1 : 0;
        });
    }

    public int excuse(int inmate) {
        return answer(() -> {
            Person p = now.get(inmate);
            boolean did = p.waits != null;
            p.waits = null;
            return did ? 1 : 0;
        });
    }

    public int rite(int room, int v) {
        return answer(() -> {
            range(room, 0, 7);
            range(v, 0, 99);
            return now.rites.set(room, v);
        });
    }

    public int room(int room, int what) {
        return answer(() -> {
            range(room, 0, 7);
            range(what, 0, 1);
            return what == 0 ? now.rites.get(room)
                : now.people.stream().filter(p -> p.room == room).mapToInt(p -> 1 << p.number).sum();
        });
    }

    // ---- OCCASIONS ----

    public int occasions(int n) {
        return answer(() -> {
            range(n, 1, 60);
            return now.after(n).out();
        });
    }

    public int seed(int v) {
        int was = now.z;
        now.z = v;
        return was;
    }

    public int occasion() {
        return now.afterDraws().out();
    }

    public int luck(int n) {
        return answer(() -> {
            range(n, 1, 30);
            int plain = now.copy().after(1).out();
            int lucky = 0;
            int z = now.z;
            for (int k = 0; k < n; k++) {
                World w = now.copy();
                w.z = z;
                lucky += w.afterDraws().out() > plain ? 1 : 0;
                z = w.z;
            }
            return lucky;
        });
    }

    public int state(int what) {
        return answer(() -> {
            range(what, 0, 5);
            switch (what) {
                case 0: return now.occasion;
                case 1: return now.outSet();
                case 2: return now.people.stream().filter(now::held).mapToInt(p -> 1 << p.number).sum();
                case 3: return now.people.stream().mapToInt(p -> p.grace).sum();
                case 5: return now.rites.stream().mapToInt(r -> r).sum();
                default:
            }
            int[] there = new int[9];
            now.people.forEach(p -> there[p.room]++);
            there[8] = 0;
            int best = 8;
            for (int room = 7; room >= 0; room--) {
                if (there[room] > 0 && there[room] >= there[best]) {
                    best = room;
                }
            }
            return best;
        });
    }

    // ---- what is TRIED ----

    /** From how it is now, changed: behind how many OCCASIONS one is in a ROOM or farther; 1000 if not by 60. */
    private int time(Consumer<World> change, int inmate, int room) {
        World w = now.copy();
        change.accept(w);
        int t = 0;
        while (w.get(inmate).room < room) {
            if (++t > 60) {
                return 1000;
            }
            w.after(1);
        }
        return t;
    }

    public int where(int inmate, int n) {
        return answer(() -> {
            range(n, 0, 60);
            return now.copy().after(n).get(inmate).room;
        });
    }

    public int leaves(int inmate) {
        return passes(inmate, 8);
    }

    public int empty() {
        int t = 0;
        for (Person p : now.people) {
            t = Math.max(t, time(w -> { }, p.number, 8));
        }
        return t == 1000 ? -3 : t;
    }

    public int passes(int inmate, int room) {
        return answer(() -> {
            range(room, 0, 8);
            int t = time(w -> { }, inmate, room);
            need(t <= 60, -3);
            return t;
        });
    }

    public int knot(int inmate) {
        return answer(() -> {
            // One is in the ring if it comes to itself again, and the first one comes to it.
            int ring = 0;
            for (int one : reached(inmate)) {
                if (reached(one).contains(one)) {
                    ring |= 1 << one;
                }
            }
            return now.get(inmate).waits != null && reached(inmate).stream().allMatch(i -> now.get(i).waits != null)
                ? ring : 0;
        });
    }

    private TreeSet<Integer> reached(int from) {
        TreeSet<Integer> seen = new TreeSet<>();
        Integer one = now.get(from).waits;
        while (one != null && seen.add(one)) {
            one = now.get(one).waits;
        }
        return seen;
    }

    public int rudeFor(int inmate, int n) {
        return answer(() -> {
            range(n, 0, 40);
            now.get(inmate);
            int best = -3;
            for (int set = (1 << now.people.size()) - 1; set >= 0; set--) {
                int rude = set;
                boolean frees = time(w -> w.people.forEach(p -> {
                    if ((rude >> p.number & 1) == 1) {
                        p.waits = null;
                    }
                }), inmate, 8) <= n;
                if (frees && (best == -3 || Integer.bitCount(set) <= Integer.bitCount(best))) {
                    best = set;
                }
            }
            return best;
        });
    }

    public int graceFor(int inmate, int n) {
        return answer(() -> {
            range(n, 0, 40);
            now.get(inmate);
            for (int v = 0; v < 100; v++) {
                int g = v;
                if (time(w -> w.get(inmate).grace = g, inmate, 8) <= n) {
                    return v;
                }
            }
            return -3;
        });
    }

    public int kindFor(int inmate) {
        return answer(() -> {
            now.get(inmate);
            int best = 5;
            for (int k = 5; k >= 0; k--) {
                int kind = k;
                int bestKind = best;
                if (time(w -> w.get(inmate).kind = kind, inmate, 8)
                        <= time(w -> w.get(inmate).kind = bestKind, inmate, 8)) {
                    best = k;
                }
            }
            return best;
        });
    }

    public int riteFor(int inmate) {
        return answer(() -> {
            now.get(inmate);
            int soonest = time(w -> { }, inmate, 8);
            int best = -3;
            for (int r = 0; r < 8; r++) {
                int room = r;
                int t = time(w -> w.rites.set(room, 0), inmate, 8);
                if (t < soonest) {
                    soonest = t;
                    best = r;
                }
            }
            return best;
        });
    }

    public int hostFor(int inmate) {
        return answer(() -> {
            now.get(inmate);
            int latest = time(w -> { }, inmate, 8);
            int best = -3;
            for (Person host : now.people) {
                int t = host.number == inmate ? -1 : time(w -> w.get(inmate).waits = host.number, inmate, 8);
                if (t > latest) {
                    latest = t;
                    best = host.number;
                }
            }
            return best;
        });
    }

    public int fits(int sheet, int inmate, int what) {
        return answer(() -> {
            range(sheet, 0, 3);
            now.get(inmate);
            range(what, 0, 1);
            need(sheets[sheet] != null, -11);
            TreeSet<Integer> fitting = new TreeSet<>();
            for (int g = 0; g < 100; g++) {
                World w = now.copy();
                w.get(inmate).grace = g;
                boolean fits = true;
                for (int k = 0; k < java.lang.reflect.Array.getLength(sheets[sheet]); k++) {
                    long room = java.lang.reflect.Array.getLong(sheets[sheet], k);
                    w.after(1);
                    fits &= room == -1 || room == w.get(inmate).room;
                }
                if (fits) {
                    fitting.add(g);
                }
            }
            need(what == 0 || !fitting.isEmpty(), -3);
            return what == 0 ? fitting.size() : fitting.first();
        });
    }

    // ---- odds ----

    public long odds(int n, int k, int part) {
        if (n < 0 || n > 8 || k < 0 || k > n || part < 0 || part > 1) {
            return -1;
        }
        BigInteger above = BigInteger.ZERO;
        for (int days = 0; days < 1 << n; days++) {
            if (Integer.bitCount(days) == k) {
                above = above.add(BigInteger.valueOf(now.law[3]).pow(k)
                    .multiply(BigInteger.valueOf(100 - now.law[3]).pow(n - k)));
            }
        }
        return part(above, BigInteger.valueOf(100).pow(n), part);
    }

    public long hope(int n, int part) {
        if (n < 0 || n > 99 || part < 0 || part > 1) {
            return -1;
        }
        return part(BigInteger.valueOf(n * now.law[3]), BigInteger.valueOf(100), part);
    }

    private static long part(BigInteger above, BigInteger below, int part) {
        BigInteger divisor = above.gcd(below);
        return (part == 0 ? above : below).divide(divisor).longValueExact();
    }

    // ---- ROWS ----

    private List<int[]> rowsOf(int inmate, int n) {
        List<int[]> made = new ArrayList<>();
        for (int t = 1; t <= n; t++) {
            World w = now.copy().after(t);
            made.add(new int[] {w.get(inmate).room, w.get(inmate).grace, w.outSet()});
        }
        return made;
    }

    public int prove(int inmate, int n) {
        return answer(() -> {
            range(n, 1, 10);
            rows = rowsOf(inmate, n);
            return n;
        });
    }

    public int row(int i, int what) {
        return i >= 0 && i < rows.size() && what >= 0 && what < 3 ? rows.get(i)[what] : -9;
    }

    public int alterRow(int i, int what, int v) {
        int was = row(i, what);
        if (i >= 0 && i < rows.size() && what >= 0 && what < 3) {
            rows.get(i)[what] = v;
        }
        return was;
    }

    public int judge(int inmate) {
        return answer(() -> {
            now.get(inmate);
            List<int[]> right = rowsOf(inmate, rows.size());
            for (int i = 0; i < rows.size(); i++) {
                if (!java.util.Arrays.equals(right.get(i), rows.get(i))) {
                    return i + 1;
                }
            }
            return 0;
        });
    }

    // ---- SHEETS ----

    public int minds(int sheet, int i, int inmate, int n) {
        return answer(() -> {
            range(sheet, 0, 3);
            now.get(inmate);
            range(n, 0, Math.min(8, now.people.size() - inmate));
            need(sheets[sheet] != null, -11);
            need(sheets[sheet] instanceof byte[], -13);
            byte[] row = (byte[]) sheets[sheet];
            need(i >= 0 && (long) i + n <= row.length, -12);
            for (int k = 0; k < n; k++) {
                now.get(inmate + k).grace = clamp(row[i + k]);
            }
            return n;
        });
    }

    public int sheet(int sheet, int sort, int n) {
        return answer(() -> {
            range(sheet, 0, 3);
            range(sort, -1, 3);
            need(sort == -1 || n <= 40, -1);
            need(sort == -1 || n >= 0, -14);
            sheets[sheet] = switch (sort) {
                case 0 -> new byte[n];
                case 1 -> new short[n];
                case 2 -> new int[n];
                case 3 -> new long[n];
                default -> null;
            };
            return 1;
        });
    }

    private static int sortOf(Object row) {
        return row instanceof byte[] ? 0 : row instanceof short[] ? 1 : row instanceof int[] ? 2 : 3;
    }

    public int put(int sheet, int i, int v) {
        return answer(() -> {
            range(sheet, 0, 3);
            Object row = sheets[sheet];
            need(row != null, -11);
            need(i >= 0 && i < java.lang.reflect.Array.getLength(row), -12);
            if (row instanceof byte[] b) {
                b[i] = (byte) v;
            } else if (row instanceof short[] s) {
                s[i] = (short) v;
            } else if (row instanceof int[] k) {
                k[i] = v;
            } else {
                ((long[]) row)[i] = v;
            }
            return 1;
        });
    }

    public int item(int sheet, int sort, int i) {
        return answer(() -> {
            range(sheet, 0, 3);
            range(sort, 0, 3);
            Object row = sheets[sheet];
            need(row != null, -11);
            need(sortOf(row) == sort, -13);
            need(i >= 0 && i < java.lang.reflect.Array.getLength(row), -12);
            return (int) java.lang.reflect.Array.getLong(row, i);
        });
    }

    // ---- SHELVES, ACTS ----

    public int shelf(int shelf, int what, int n) {
        return answer(() -> {
            range(shelf, 0, 3);
            range(what, 0, 2);
            if (what == 0) {
                now.get(n);
                shelves[shelf] = n;
            } else if (what == 1) {
                range(n, 0, 3);
                shelves[shelf] = sheets[n];
            } else {
                shelves[shelf] = null;
            }
            return 1;
        });
    }

    private Object onShelf(int shelf) {
        Object held = shelves[shelf];
        return held instanceof Integer n ? n < now.people.size() ? now.people.get(n) : null : held;
    }

    public int taken(int shelf, int as) {
        return answer(() -> {
            range(shelf, 0, 3);
            need(as >= 0 && as <= 5 || as >= 10 && as <= 13, -1);
            Object held = onShelf(shelf);
            need(held != null, -11);
            if (as < 10) {
                need(held instanceof Person, -13);
                need(KINDS.get(as).isInstance(((Person) held).thing()), -13);
                return ((Person) held).number;
            }
            need(!(held instanceof Person) && sortOf(held) == as - 10, -13);
            return java.lang.reflect.Array.getLength(held);
        });
    }

    public int act(int shelf, int act, int x) {
        trace = new ArrayList<>();
        if (shelf < 0 || shelf > 3 || act < 0 || act > 3 || !(onShelf(shelf) instanceof Person p)) {
            return 0;
        }
        Inmate thing = p.thing();
        trace = thing.ran;
        try {
            return act == 0 ? thing.bows(x) : act == 1 ? thing.thanks(x) : act == 2 ? thing.parts(x) : thing.leaves(x);
        } catch (ArithmeticException e) {
            return -15;
        }
    }

    public int trace(int i) {
        return i >= 0 && i < Math.min(30, trace.size()) ? trace.get(i) : -3;
    }

    public int many(int what) {
        return switch (what) {
            case 0 -> now.people.size();
            case 1 -> now.out();
            case 2 -> (int) now.people.stream().filter(p -> p.waits != null).count();
            case 3 -> (int) now.people.stream().filter(now::held).count();
            case 4 -> rows.size();
            case 5 -> tape.length();
            case 6 -> Math.min(30, trace.size());
            default -> -1;
        };
    }

    public int keep() {
        kept = now.copy();
        return 1;
    }

    public int again() {
        if (kept == null) {
            return -3;
        }
        now = kept.copy();
        return now.people.size();
    }
}
