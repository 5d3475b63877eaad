import java.util.ArrayDeque;
import java.util.ArrayList;
import java.util.Arrays;
import java.util.Deque;
import java.util.HashMap;
import java.util.IdentityHashMap;
import java.util.List;
import java.util.Map;
import java.util.Random;
import java.util.TreeMap;

/** Long runs of mixed calls: each answer of the class beside that of a plain model of the document. */
public final class ModelTest {
    private static final long IAE = Long.MIN_VALUE + 1, ISE = Long.MIN_VALUE + 2, IOOBE = Long.MIN_VALUE + 3;
    private static final int RUNS = 3000, CALLS = 512;
    private static final String[] NAMES = {"type", "field", "drop", "shut", "check", "unchecked", "word", "thing",
        "put", "refer", "row", "share", "item", "at", "itemAt", "forget", "told", "judge", "save", "saved", "restore",
        "fault", "like", "differs", "mark", "undo", "count"};
    private static final int[] ODDS = {2, 9, 4, 2, 2, 3, 3, 10, 12, 14, 9, 9, 14, 6, 6, 1, 2, 8, 8, 2, 10, 4, 10, 8, 3,
        3, 3};
    private static final int[] HOW_MANY = {0, 4, 2, 3, 5, 1, 2, 1, 3, 3, 3, 4, 4, 2, 3, 0, 2, 1, 2, 2, 2, 1, 2, 2, 0, 0,
        1};

    private static final class Def {
        final int name;
        final int lane;
        final long first;
        boolean shut;

        Def(int name, int lane, long first) {
            this.name = name;
            this.lane = lane;
            this.first = first;
        }
    }

    private static final class Kind {
        final int number;
        final List<Def> defs = new ArrayList<>();
        final List<long[]> checks = new ArrayList<>();

        Kind(int number) {
            this.number = number;
        }

        Def named(int name) {
            return defs.stream().filter(d -> d.name == name).findFirst().orElse(null);
        }
    }

    /** Values: Long of a WHOLE, Integer of a WORD, Being of a THING, long[] of a ROW; null is none. */
    private static final class Being {
        final Kind kind;
        final Map<Def, Object> values = new IdentityHashMap<>();

        Being(Kind kind) {
            this.kind = kind;
        }

        Object get(Def d) {
            return values.containsKey(d) ? values.get(d) : d.lane == 0 ? (Object) d.first : null;
        }
    }

    private record Kept(int name, int lane, Object value) { }

    private record Record(int kind, List<Kept> fields) { }

    /** In a Kept a THING and a ROW are their numbers. */
    private static final class Keeping {
        final List<Record> records = new ArrayList<>();
        final List<long[]> rows = new ArrayList<>();
        int shutRecord = -1;
        int shutName = -1;
    }

    private static final class World {
        final List<Kind> kinds = new ArrayList<>();
        List<Being> beings = new ArrayList<>();
        final boolean[] unused = new boolean[16];
        final Keeping[] saves = new Keeping[4];
        final Deque<Deque<Runnable>> marks = new ArrayDeque<>();
        int[] fault;

        static <T> T pick(List<T> list, int i) {
            return i >= 0 && i < list.size() ? list.get(i) : null;
        }

        long type() {
            if (kinds.size() == 8) {
                return -4;
            }
            kinds.add(new Kind(kinds.size()));
            return kinds.size() - 1;
        }

        long field(int t, int name, int lane, long v) {
            Kind kind = pick(kinds, t);
            if (kind == null) {
                return -1;
            }
            if (name < 0 || name > 19 || kind.named(name) != null || lane < 0 || lane > 5) {
                return -2;
            }
            if (!marks.isEmpty()) {
                return -3;
            }
            if (kind.defs.size() == 5) {
                return -4;
            }
            kind.defs.add(new Def(name, lane, v));
            return kind.defs.size() - 1;
        }

        Def def(int t, int k) {
            Kind kind = pick(kinds, t);
            return kind == null ? null : pick(kind.defs, k);
        }

        long drop(int t, int k) {
            if (def(t, k) == null) {
                return -1;
            }
            if (!marks.isEmpty()) {
                return -3;
            }
            kinds.get(t).defs.remove(k);
            return kinds.get(t).defs.size();
        }

        long shut(int t, int k, boolean on) {
            Def d = def(t, k);
            if (d == null) {
                return -1;
            }
            boolean was = d.shut;
            d.shut = on;
            return was ? 1 : 0;
        }

        long check(int t, int kind, int a, int b, long v) {
            Kind of = pick(kinds, t);
            if (of == null) {
                return -1;
            }
            if (kind < 0 || kind > 5 || a < 0 || a > 4 || b < 0 || b > 4) {
                return -2;
            }
            if (of.checks.size() == 4) {
                return -4;
            }
            of.checks.add(new long[] {kind, a, b, v});
            return of.checks.size();
        }

        long unchecked(int t) {
            Kind kind = pick(kinds, t);
            if (kind == null) {
                return -1;
            }
            int had = kind.checks.size();
            kind.checks.clear();
            return had;
        }

        long word(int w, boolean on) {
            if (w < 0 || w > 15) {
                return -1;
            }
            boolean was = !unused[w];
            unused[w] = !on;
            return was ? 1 : 0;
        }

        long thing(int t) {
            Kind kind = pick(kinds, t);
            if (kind == null) {
                return -1;
            }
            if (beings.size() == 30) {
                return -4;
            }
            beings.add(new Being(kind));
            return beings.size() - 1;
        }

        Def defOf(int x, int k) {
            Being being = pick(beings, x);
            return being == null ? null : pick(being.kind.defs, k);
        }

        int noted() {
            return marks.stream().mapToInt(Deque::size).sum();
        }

        long set(int x, Def d, Object value) {
            if (!marks.isEmpty() && noted() == 80) {
                return -4;
            }
            Being being = beings.get(x);
            Object old = being.get(d);
            if (!marks.isEmpty()) {
                marks.peek().push(() -> being.values.put(d, old));
            }
            being.values.put(d, value);
            return 1;
        }

        long put(int x, int k, long v) {
            Def d = defOf(x, k);
            if (d == null) {
                return -1;
            }
            if (d.lane > 1) {
                return -14;
            }
            if (d.lane == 0) {
                return set(x, d, v);
            }
            if (v < -1 || v > 15 || (v >= 0 && unused[(int) v])) {
                return -17;
            }
            return set(x, d, v == -1 ? null : Integer.valueOf((int) v));
        }

        long refer(int x, int k, int y) {
            Def d = defOf(x, k);
            if (d == null || (y != -1 && pick(beings, y) == null)) {
                return -1;
            }
            return d.lane != 2 ? -14 : set(x, d, pick(beings, y));
        }

        long row(int x, int k, int n) {
            Def d = defOf(x, k);
            if (d == null) {
                return -1;
            }
            if (n > 12) {
                return -2;
            }
            if (d.lane < 3) {
                return -14;
            }
            return n < -1 ? -13 : set(x, d, n == -1 ? null : new long[n]);
        }

        long share(int x, int k, int y, int j) {
            Def d = defOf(x, k);
            Def e = defOf(y, j);
            if (d == null || e == null) {
                return -1;
            }
            return d.lane < 3 || d.lane != e.lane ? -14 : set(x, d, beings.get(y).get(e));
        }

        long item(int x, int k, int i, long v) {
            Def d = defOf(x, k);
            if (d == null) {
                return -1;
            }
            if (d.lane < 3) {
                return -14;
            }
            long[] row = (long[]) beings.get(x).get(d);
            if (row == null) {
                return -11;
            }
            if (i < 0 || i >= row.length) {
                return -12;
            }
            if (!marks.isEmpty()) {
                if (noted() == 80) {
                    return -4;
                }
                long old = row[i];
                marks.peek().push(() -> row[i] = old);
            }
            row[i] = d.lane == 3 ? (byte) v : d.lane == 4 ? (int) v : v;
            return 1;
        }

        long at(int x, int k) {
            if (pick(beings, x) == null) {
                return IAE;
            }
            Def d = defOf(x, k);
            if (d == null) {
                return IOOBE;
            }
            Object value = beings.get(x).get(d);
            if (value instanceof Being being) {
                return placeOf(being);
            }
            return value == null ? -1 : value instanceof long[] row ? row.length : ((Number) value).longValue();
        }

        int placeOf(Being being) {
            for (int x = 0; x < beings.size(); x++) {
                if (beings.get(x) == being) {
                    return x;
                }
            }
            throw new AssertionError("a thing leads out of the world");
        }

        long itemAt(int x, int k, int i) {
            if (pick(beings, x) == null) {
                return IAE;
            }
            Def d = defOf(x, k);
            if (d == null) {
                return IOOBE;
            }
            Object value = beings.get(x).get(d);
            if (!(value instanceof long[] row)) {
                return ISE;
            }
            return i < 0 || i >= row.length ? IOOBE : row[i];
        }

        long forget() {
            if (!marks.isEmpty()) {
                return -3;
            }
            int had = beings.size();
            beings = new ArrayList<>();
            return had;
        }

        long told(int x, int what) {
            Being being = pick(beings, x);
            return being == null ? -1 : what == 0 ? being.kind.number : what == 1 ? being.kind.defs.size() : -2;
        }

        boolean laneIs(Def d, int low, int high) {
            return d != null && d.lane >= low && d.lane <= high;
        }

        /** 0, or the failure. */
        int failure(Being being, long[] check) {
            Def a = pick(being.kind.defs, (int) check[1]);
            Def b = pick(being.kind.defs, (int) check[2]);
            long v = check[3];
            int low = new int[] {0, 2, 3, 0, 0, 2}[(int) check[0]];
            if (!laneIs(a, low, low == 3 ? 5 : low)) {
                return 4;
            }
            if ((check[0] == 0 || check[0] == 2) && !laneIs(b, 0, 0)) {
                return 4;
            }
            Object value = being.get(a);
            if (value == null) {
                return 1;
            }
            switch ((int) check[0]) {
                case 0:
                    return (Long) being.get(b) == 0 ? 5 : 0;
                case 1:
                    return ((Being) value).kind.number == v ? 0 : 4;
                case 2:
                    long[] row = (long[]) value;
                    long i = (Long) being.get(b);
                    return i < 0 || i >= row.length ? 2 : row[(int) i] > v ? 0 : 6;
                case 3:
                    return (Long) value > 12 ? 6 : (Long) value < 0 ? 3 : 0;
                case 4:
                    return (Long) value >= v ? 0 : 6;
                default:
                    Being next = (Being) value;
                    Def same = next.kind.named(a.name);
                    return same == null || same.lane != 2 ? 4 : next.get(same) == null ? 1 : 0;
            }
        }

        /** The number of the CHECK times 100, and the failure; or -1. */
        int judging(Being being) {
            for (int c = 0; c < being.kind.checks.size(); c++) {
                int failure = failure(being, being.kind.checks.get(c));
                if (failure != 0) {
                    return c * 100 + failure;
                }
            }
            return -1;
        }

        long judge(int x) {
            Being being = pick(beings, x);
            if (being == null) {
                return -1;
            }
            int judged = judging(being);
            return judged < 0 ? 1 : -10 - judged % 100;
        }

        Keeping keeping(Being root) {
            Keeping out = new Keeping();
            Map<Object, Integer> numbers = new IdentityHashMap<>();
            List<Being> order = new ArrayList<>(List.of(root));
            numbers.put(root, 0);
            for (int r = 0; r < order.size(); r++) {
                Being being = order.get(r);
                List<Kept> fields = new ArrayList<>();
                for (Def d : being.kind.defs) {
                    if (d.shut && out.shutRecord < 0) {
                        out.shutRecord = r;
                        out.shutName = d.name;
                    }
                    Object value = being.get(d);
                    if (value instanceof Being next && !numbers.containsKey(next)) {
                        numbers.put(next, order.size());
                        order.add(next);
                    }
                    if (value instanceof long[] row && !numbers.containsKey(row)) {
                        numbers.put(row, out.rows.size());
                        out.rows.add(row.clone());
                    }
                    fields.add(new Kept(d.name, d.lane, value != null && d.lane > 1 ? numbers.get(value) : value));
                }
                out.records.add(new Record(being.kind.number, fields));
            }
            return out;
        }

        long save(int s, int x) {
            if (s < 0 || s > 3 || pick(beings, x) == null) {
                return -1;
            }
            Keeping keeping = keeping(beings.get(x));
            if (keeping.shutRecord >= 0) {
                fault = new int[] {keeping.shutRecord, keeping.shutName, -1};
                return -20;
            }
            saves[s] = keeping;
            return keeping.records.size();
        }

        long saved(int s, int what) {
            if (s < 0 || s > 3) {
                return -1;
            }
            if (what < 0 || what > 1) {
                return -2;
            }
            return saves[s] == null ? 0 : what == 0 ? saves[s].records.size() : saves[s].rows.size();
        }

        long restore(int s, int rule) {
            if (s < 0 || s > 3 || saves[s] == null) {
                return -1;
            }
            if (rule < 0 || rule > 3) {
                return -2;
            }
            if (beings.size() + saves[s].records.size() > 30) {
                return -4;
            }
            List<Being> made = new ArrayList<>();
            for (Record record : saves[s].records) {
                made.add(new Being(kinds.get(record.kind)));
            }
            Map<String, long[]> rows = new HashMap<>();
            for (int r = 0; r < made.size(); r++) {
                for (Kept kept : saves[s].records.get(r).fields) {
                    int failure = putBack(made, r, kept, rule, rows, saves[s]);
                    if (failure != 0) {
                        fault = new int[] {r, kept.name, -1};
                        return -10 - failure;
                    }
                }
            }
            for (int r = 0; r < made.size(); r++) {
                int judged = judging(made.get(r));
                if (judged >= 0) {
                    fault = new int[] {r, -1, judged / 100};
                    return -10 - judged % 100;
                }
            }
            beings.addAll(made);
            return beings.size() - made.size();
        }

        int putBack(List<Being> made, int r, Kept kept, int rule, Map<String, long[]> rows, Keeping from) {
            Being being = made.get(r);
            Def d = being.kind.named(kept.name);
            if (d == null) {
                return rule % 2 == 1 ? 0 : 8;
            }
            switch (kept.lane * 10 + d.lane) {
                case 0:
                    being.values.put(d, kept.value);
                    return 0;
                case 10:
                    being.values.put(d, kept.value == null ? -1L : ((Integer) kept.value).longValue());
                    return 0;
                case 11:
                    boolean out = kept.value != null && unused[(Integer) kept.value];
                    if (out && rule < 2) {
                        return 7;
                    }
                    being.values.put(d, out ? null : kept.value);
                    return 0;
                case 22:
                    being.values.put(d, kept.value == null ? null : made.get((Integer) kept.value));
                    return 0;
                case 33: case 34: case 35: case 44: case 45: case 55:
                    being.values.put(d, kept.value == null ? null : rows.computeIfAbsent(kept.value + "/" + d.lane,
                            key -> from.rows.get((Integer) kept.value).clone()));
                    return 0;
                default:
                    return 9;
            }
        }

        long fault(int what) {
            return fault == null ? -9 : what < 0 || what > 2 ? -2 : fault[what];
        }

        boolean meets(Object one, Object other, Map<Object, Object> there, Map<Object, Object> back) {
            if (one == null || other == null) {
                return one == other;
            }
            if (there.containsKey(one) || back.containsKey(other)) {
                return there.get(one) == other && back.get(other) == one;
            }
            there.put(one, other);
            back.put(other, one);
            if (one instanceof long[] row) {
                return Arrays.equals(row, (long[]) other);
            }
            Being left = (Being) one;
            Being right = (Being) other;
            if (left.kind != right.kind) {
                return false;
            }
            for (Def d : left.kind.defs) {
                Object mine = left.get(d);
                Object its = right.get(d);
                if (d.lane < 2 ? !java.util.Objects.equals(mine, its) : !meets(mine, its, there, back)) {
                    return false;
                }
            }
            return true;
        }

        long like(int x, int y) {
            if (pick(beings, x) == null || pick(beings, y) == null) {
                return -1;
            }
            return meets(beings.get(x), beings.get(y), new IdentityHashMap<>(), new IdentityHashMap<>()) ? 1 : 0;
        }

        long differs(int s, int x) {
            if (s < 0 || s > 3 || saves[s] == null || pick(beings, x) == null) {
                return -2;
            }
            Keeping now = keeping(beings.get(x));
            Keeping then = saves[s];
            for (int r = 0; r < now.records.size() || r < then.records.size(); r++) {
                Record mine = pick(now.records, r);
                Record its = pick(then.records, r);
                if (mine == null || its == null || !shape(mine).equals(shape(its))) {
                    return r * 100 + 99;
                }
                for (int f = 0; f < mine.fields.size(); f++) {
                    if (!text(mine.fields.get(f), now).equals(text(its.fields.get(f), then))) {
                        return r * 100 + mine.fields.get(f).name;
                    }
                }
            }
            return -1;
        }

        String shape(Record record) {
            StringBuilder text = new StringBuilder().append(record.kind);
            record.fields.forEach(f -> text.append(';').append(f.name).append(':').append(f.lane));
            return text.toString();
        }

        String text(Kept kept, Keeping of) {
            return kept.value + (kept.lane < 3 || kept.value == null ? ""
                    : Arrays.toString(of.rows.get((Integer) kept.value)));
        }

        long mark() {
            if (marks.size() == 4) {
                return -4;
            }
            marks.push(new ArrayDeque<>());
            return marks.size();
        }

        long undo() {
            if (marks.isEmpty()) {
                return -3;
            }
            Deque<Runnable> notes = marks.pop();
            notes.forEach(Runnable::run);
            return notes.size();
        }

        long count(int what) {
            return what == 0 ? kinds.size() : what == 1 ? beings.size() : what == 2 ? marks.size()
                    : what == 3 ? noted() : -2;
        }

        long call(int c, int[] i, long v) {
            switch (c) {
                case 0: return type();
                case 1: return field(i[0], i[1], i[2], v);
                case 2: return drop(i[0], i[1]);
                case 3: return shut(i[0], i[1], v % 2 == 0);
                case 4: return check(i[0], i[1], i[2], i[3], v);
                case 5: return unchecked(i[0]);
                case 6: return word(i[0], v % 2 == 0);
                case 7: return thing(i[0]);
                case 8: return put(i[0], i[1], v);
                case 9: return refer(i[0], i[1], i[2]);
                case 10: return row(i[0], i[1], i[2]);
                case 11: return share(i[0], i[1], i[2], i[3]);
                case 12: return item(i[0], i[1], i[2], v);
                case 13: return at(i[0], i[1]);
                case 14: return itemAt(i[0], i[1], i[2]);
                case 15: return forget();
                case 16: return told(i[0], i[1]);
                case 17: return judge(i[0]);
                case 18: return save(i[0], i[1]);
                case 19: return saved(i[0], i[1]);
                case 20: return restore(i[0], i[1]);
                case 21: return fault(i[0]);
                case 22: return like(i[0], i[1]);
                case 23: return differs(i[0], i[1]);
                case 24: return mark();
                case 25: return undo();
                default: return count(i[0]);
            }
        }
    }

    private static long call(StateRecords s, int c, int[] i, long v) {
        try {
            switch (c) {
                case 0: return s.type();
                case 1: return s.field(i[0], i[1], i[2], v);
                case 2: return s.drop(i[0], i[1]);
                case 3: return s.shut(i[0], i[1], v % 2 == 0);
                case 4: return s.check(i[0], i[1], i[2], i[3], v);
                case 5: return s.unchecked(i[0]);
                case 6: return s.word(i[0], v % 2 == 0);
                case 7: return s.thing(i[0]);
                case 8: return s.put(i[0], i[1], v);
                case 9: return s.refer(i[0], i[1], i[2]);
                case 10: return s.row(i[0], i[1], i[2]);
                case 11: return s.share(i[0], i[1], i[2], i[3]);
                case 12: return s.item(i[0], i[1], i[2], v);
                case 13: return s.at(i[0], i[1]);
                case 14: return s.itemAt(i[0], i[1], i[2]);
                case 15: return s.forget();
                case 16: return s.told(i[0], i[1]);
                case 17: return s.judge(i[0]);
                case 18: return s.save(i[0], i[1]);
                case 19: return s.saved(i[0], i[1]);
                case 20: return s.restore(i[0], i[1]);
                case 21: return s.fault(i[0]);
                case 22: return s.like(i[0], i[1]);
                case 23: return s.differs(i[0], i[1]);
                case 24: return s.mark();
                case 25: return s.undo();
                default: return s.count(i[0]);
            }
        } catch (RuntimeException e) {
            // The very class: one that the machine throws is below these, and never right.
            return e.getClass() == IllegalArgumentException.class ? IAE
                    : e.getClass() == IllegalStateException.class ? ISE
                    : e.getClass() == IndexOutOfBoundsException.class ? IOOBE : Long.MIN_VALUE + 9;
        }
    }

    private static final class Chooser {
        final Random random;
        final World world;
        /** A run of few types, names and words comes to likeness and changed types more often. */
        final int types;
        final int names;
        final int words;
        final boolean tidy;
        final boolean longMarks;

        Chooser(long seed, World world) {
            // Seeds that lie close together would begin alike.
            random = new Random(seed * 0x9E3779B97F4A7C15L);
            this.world = world;
            types = 1 + random.nextInt(random.nextBoolean() ? 2 : 8);
            names = random.nextBoolean() ? 6 : 20;
            words = random.nextBoolean() ? 2 : 16;
            tidy = random.nextInt(4) != 0;
            longMarks = random.nextInt(3) == 0;
        }

        int next() {
            int c = setUp();
            if (c >= 0) {
                return c;
            }
            int n = random.nextInt(Arrays.stream(ODDS).sum());
            c = 0;
            while (n >= ODDS[c]) {
                n -= ODDS[c++];
            }
            if (c == 24 && !world.marks.isEmpty() && random.nextInt(3) != 0) {
                return longMarks ? 8 : 25;
            }
            if (c == 25 && longMarks && random.nextInt(8) != 0) {
                return 12;
            }
            boolean enough = c == 0 && world.kinds.size() >= types || c == 7 && world.beings.size() > 8;
            return enough && random.nextInt(10) != 0 ? 8 + random.nextInt(5) : c;
        }

        /** Types with fields and some things come first, or a run comes to nothing much; -1: they are there. */
        int setUp() {
            if (random.nextInt(20) == 0) {
                return -1;
            }
            if (world.kinds.size() < types) {
                return 0;
            }
            if (world.marks.isEmpty() && world.kinds.stream().mapToInt(k -> k.defs.size()).sum() < 4 * types) {
                return 1;
            }
            if (world.beings.size() > 26 && world.marks.isEmpty() && random.nextInt(8) == 0) {
                return 15;
            }
            return world.beings.size() < 3 ? 7 : -1;
        }

        int number(int bound) {
            if (random.nextInt(tidy ? 60 : 12) == 0) {
                int[] odd = {-1, -2, bound, bound + 1, Integer.MIN_VALUE, Integer.MAX_VALUE, 13, 31};
                return odd[random.nextInt(odd.length)];
            }
            return bound <= 0 ? 0 : random.nextInt(bound);
        }

        int[] arguments(int c) {
            int x = number(world.beings.size());
            int y = number(world.beings.size());
            int t = number(world.kinds.size());
            switch (c) {
                case 1: return random.nextBoolean() ? comingAgain(t) : new int[] {t, number(names), number(6)};
                case 2: case 3: return new int[] {t, number(5)};
                case 4: return check(t);
                case 5: case 7: return new int[] {t};
                case 6: return new int[] {number(words)};
                case 8: return new int[] {x, fieldOf(x, 0, 1)};
                case 9: return new int[] {x, fieldOf(x, 2, 2), random.nextInt(8) == 0 ? -1 : y};
                case 10: return new int[] {x, fieldOf(x, 3, 5), random.nextInt(8) == 0 ? -1 : number(4)};
                case 11: return sharing(x, y);
                case 12: case 14: return itemSomewhere(x);
                case 13: return new int[] {x, number(5)};
                case 16: return new int[] {x, number(2)};
                case 17: return new int[] {x};
                case 18: case 23: return new int[] {number(4), x};
                case 19: return new int[] {number(4), number(2)};
                case 20: return new int[] {number(4), number(4)};
                case 21: return new int[] {number(3)};
                case 22: return new int[] {x, y};
                case 26: return new int[] {number(4)};
                default: return new int[0];
            }
        }

        /** A field that a save has and its type has no more, mostly of a lane to which it may come. */
        int[] comingAgain(int t) {
            Keeping save = world.saves[random.nextInt(4)];
            for (int r = 0; save != null && r < save.records.size(); r++) {
                Record record = save.records.get(r);
                for (Kept kept : record.fields) {
                    if (world.kinds.get(record.kind).named(kept.name) == null && random.nextInt(3) != 0) {
                        int wider = kept.lane == 1 ? 0 : kept.lane > 2 ? kept.lane + random.nextInt(6 - kept.lane) : 2;
                        return new int[] {record.kind, kept.name, random.nextInt(4) == 0 ? number(6) : wider};
                    }
                }
            }
            return new int[] {t, number(names), number(6)};
        }

        /** An item of a row that is there, mostly, if some tries come to one. */
        int[] itemSomewhere(int first) {
            int x = first;
            int k = fieldOf(x, 3, 5);
            for (int tries = 0; tries < 6 && random.nextInt(10) != 0; tries++) {
                Def d = world.defOf(x, k);
                if (d != null && world.beings.get(x).get(d) instanceof long[]) {
                    break;
                }
                x = number(world.beings.size());
                k = fieldOf(x, 3, 5);
            }
            return new int[] {x, k, number(3)};
        }

        /** Two fields of one lane of rows, where there are such. */
        int[] sharing(int x, int y) {
            int k = fieldOf(x, 3, 5);
            Def d = world.defOf(x, k);
            return new int[] {x, k, y, d == null ? number(5) : fieldOf(y, d.lane, d.lane)};
        }

        /** A check of fields that mostly fit it. */
        int[] check(int t) {
            int kind = number(6);
            int low = kind >= 0 && kind < 6 ? new int[] {0, 2, 3, 0, 0, 2}[kind] : 0;
            Kind of = World.pick(world.kinds, t);
            return new int[] {t, kind, fieldOf(of, low, low == 3 ? 5 : low), fieldOf(of, 0, 0)};
        }

        int fieldOf(int x, int low, int high) {
            Being being = World.pick(world.beings, x);
            return fieldOf(being == null ? null : being.kind, low, high);
        }

        int fieldOf(Kind kind, int low, int high) {
            int k = number(5);
            for (int tries = 0; tries < 4 && kind != null && random.nextInt(10) != 0; tries++) {
                Def d = World.pick(kind.defs, k);
                if (d != null && d.lane >= low && d.lane <= high) {
                    break;
                }
                k = number(kind.defs.size());
            }
            return k;
        }

        long value(int c) {
            if (c == 3 && random.nextInt(4) != 0) {
                // Opened oftener than shut, or few saves would come to anything.
                return 1;
            }
            switch (random.nextInt(12)) {
                case 0: return random.nextLong();
                case 1: return random.nextInt();
                case 2: return random.nextInt(40) - 20;
                case 3: return -1;
                default: return random.nextInt(words);
            }
        }
    }

    private static boolean sameRun(long seed, Map<String, Map<Long, Integer>> seen) {
        StateRecords s = new StateRecords();
        World world = new World();
        Chooser chooser = new Chooser(seed, world);
        StringBuilder told = new StringBuilder();
        for (int n = 0; n < CALLS; n++) {
            int c = chooser.next();
            int[] i = Arrays.copyOf(chooser.arguments(c), 5);
            long v = chooser.value(c);
            long due = world.call(c, i, v);
            long got = call(s, c, i, v);
            told.append(NAMES[c]).append(Arrays.toString(Arrays.copyOf(i, HOW_MANY[c]))).append(" v ").append(v)
                    .append(" -> ").append(due).append('\n');
            long kind = due >= 0 && c != 22 && c != 21 || due < -20 && due > IOOBE ? 0 : due;
            seen.computeIfAbsent(NAMES[c], key -> new TreeMap<>()).merge(kind, 1, Integer::sum);
            if (got != due) {
                System.out.println(told);
                System.out.println("run " + seed + ": the last call answered " + got + ", due is " + due);
                return false;
            }
        }
        return sameWorld(seed, s, world);
    }

    private static boolean sameWorld(long seed, StateRecords s, World world) {
        for (int x = -1; x <= world.beings.size(); x++) {
            for (int k = -1; k <= 5; k++) {
                for (int i = -2; i <= 12; i++) {
                    int[] where = {x, k, i};
                    int c = i == -2 ? 13 : 14;
                    if (call(s, c, where, 0) != world.call(c, where, 0)) {
                        System.out.println("run " + seed + ": another value at " + Arrays.toString(where));
                        return false;
                    }
                }
            }
        }
        return true;
    }

    /** The runs must come to what they are to try, or they prove nothing. */
    private static boolean hasSeen(Map<String, Map<Long, Integer>> seen, String call, long... answers) {
        for (long answer : answers) {
            if (!seen.getOrDefault(call, Map.of()).containsKey(answer)) {
                System.out.println("no run has come to " + call + " answering " + answer);
                return false;
            }
        }
        return true;
    }

    private static boolean hasSeenAll(Map<String, Map<Long, Integer>> seen) {
        return hasSeen(seen, "type", 0, -4) & hasSeen(seen, "field", 0, -1, -2, -3, -4)
                & hasSeen(seen, "drop", 0, -1, -3) & hasSeen(seen, "check", 0, -1, -2, -4)
                & hasSeen(seen, "thing", 0, -1, -4) & hasSeen(seen, "put", 0, -1, -4, -14, -17)
                & hasSeen(seen, "refer", 0, -1, -4, -14) & hasSeen(seen, "row", 0, -1, -2, -4, -13, -14)
                & hasSeen(seen, "share", 0, -1, -4, -14) & hasSeen(seen, "item", 0, -1, -4, -11, -12, -14)
                & hasSeen(seen, "at", 0, -1, IAE, IOOBE) & hasSeen(seen, "itemAt", 0, IAE, ISE, IOOBE)
                & hasSeen(seen, "forget", 0, -3) & hasSeen(seen, "judge", 0, -1, -11, -12, -13, -14, -15, -16)
                & hasSeen(seen, "save", 0, -1, -20)
                & hasSeen(seen, "restore", 0, -1, -2, -4, -11, -12, -13, -14, -15, -16, -17, -18, -19)
                & hasSeen(seen, "fault", -9, -2, -1, 0, 1, 2, 3) & hasSeen(seen, "like", 0, 1, -1)
                & hasSeen(seen, "differs", 0, -1, -2) & hasSeen(seen, "mark", 0, -4) & hasSeen(seen, "undo", 0, -3);
    }

    public static void main(String[] args) {
        Map<String, Map<Long, Integer>> seen = new TreeMap<>();
        for (long seed = 1; seed <= RUNS; seed++) {
            if (!sameRun(seed, seen)) {
                System.exit(1);
            }
        }
        if (args.length > 0) {
            System.out.println(seen);
        }
        if (!hasSeenAll(seen)) {
            System.exit(1);
        }
        System.out.println(RUNS + " runs are as the model");
    }
}
