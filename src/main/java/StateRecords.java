/** A world of typed things that can be kept as records, put back, compared and undone. */
public final class StateRecords {
    public static final int NONE = -1, BAD = -2, STATE = -3, FULL = -4;

    private static final int MOST_TYPES = 8, MOST_FIELDS = 5, MOST_CHECKS = 4, MOST_THINGS = 30;
    private static final int MOST_ITEMS = 12, MOST_MARKS = 4, MOST_NOTES = 80;
    private static final int MOST_SLOTS = MOST_THINGS * MOST_FIELDS;
    private static final int NAMES = 20, LANES = 6, WORDS = 16, KINDS = 6, SAVES = 4, RULES = 4;

    private static final int WHOLE = 0, WORD = 1, THING = 2, BYTES = 3, INTS = 4, LONGS = 5;
    private static final int ROW_LANES = 3;

    private static final int DIVIDES = 0, MEETS = 1, HAS = 2, HOLDS = 3, LEAST = 4;

    private static final int FINE = 0;
    private static final int IS_NULL = 1, IS_INDEX = 2, IS_SIZE = 3, IS_CAST = 4, IS_DIVIDE = 5, IS_OWN = 6;
    private static final int IS_WORD = 7, IS_GONE = 8, IS_LANE = 9, IS_SHUT = 10;

    private static final int GONE_LEFT_OUT = 1, UNUSED_WORDS_NONE = 2;
    private static final int NO_FAULT_YET = -9, SHAPE_DIFFERS = 99, RECORD_STEP = 100;

    private final Type[] types = new Type[MOST_TYPES];
    private int typeCount;
    private final Thing[] things = new Thing[MOST_THINGS];
    private int thingCount;
    private final boolean[] wordsInUse = new boolean[WORDS];
    private final Records[] saves = new Records[SAVES];
    private Records spare = new Records();
    private final Records secondSpare = new Records();
    private final Thing[] recorded = new Thing[MOST_THINGS];
    private final Row[] rowsPutBack = new Row[MOST_SLOTS * ROW_LANES];
    private final Journal journal = new Journal();
    private final Fault latestFault = new Fault();

    public StateRecords() {
        for (int x = 0; x < MOST_THINGS; x++) {
            things[x] = new Thing();
        }
        for (int w = 0; w < WORDS; w++) {
            wordsInUse[w] = true;
        }
        for (int s = 0; s < SAVES; s++) {
            saves[s] = new Records();
        }
    }

    // ---- types ----

    public int type() {
        if (typeCount >= MOST_TYPES) {
            return FULL;
        }
        types[typeCount] = new Type(typeCount);
        typeCount++;
        return typeCount - 1;
    }

    public int field(int t, int name, int lane, long v) {
        Type type = typeNumbered(t);
        if (type == null) {
            return NONE;
        }
        if (!isBelow(name, NAMES) || type.fieldNamed(name) != NONE || !isBelow(lane, LANES)) {
            return BAD;
        }
        if (journal.markCount > 0) {
            return STATE;
        }
        if (type.fieldCount >= MOST_FIELDS) {
            return FULL;
        }
        int k = type.addField(name, lane, lane == WHOLE ? v : NONE);
        for (int x = 0; x < thingCount; x++) {
            if (things[x].type == type) {
                things[x].setDefault(k);
            }
        }
        return k;
    }

    public int drop(int t, int k) {
        Type type = typeNumbered(t);
        if (type == null || !type.hasField(k)) {
            return NONE;
        }
        if (journal.markCount > 0) {
            return STATE;
        }
        type.removeField(k);
        for (int x = 0; x < thingCount; x++) {
            if (things[x].type == type) {
                things[x].removeField(k);
            }
        }
        return type.fieldCount;
    }

    public int shut(int t, int k, boolean on) {
        Type type = typeNumbered(t);
        if (type == null || !type.hasField(k)) {
            return NONE;
        }
        int before = type.shuts[k] ? 1 : 0;
        type.shuts[k] = on;
        return before;
    }

    public int check(int t, int kind, int a, int b, long v) {
        Type type = typeNumbered(t);
        if (type == null) {
            return NONE;
        }
        if (!isBelow(kind, KINDS) || !isBelow(a, MOST_FIELDS) || !isBelow(b, MOST_FIELDS)) {
            return BAD;
        }
        if (type.checkCount >= MOST_CHECKS) {
            return FULL;
        }
        type.checks[type.checkCount] = new Check(kind, a, b, v);
        type.checkCount++;
        return type.checkCount;
    }

    public int unchecked(int t) {
        Type type = typeNumbered(t);
        if (type == null) {
            return NONE;
        }
        int before = type.checkCount;
        type.checkCount = 0;
        return before;
    }

    public int word(int w, boolean on) {
        if (!isBelow(w, WORDS)) {
            return NONE;
        }
        int before = wordsInUse[w] ? 1 : 0;
        wordsInUse[w] = on;
        return before;
    }

    // ---- things ----

    public int thing(int t) {
        Type type = typeNumbered(t);
        if (type == null) {
            return NONE;
        }
        if (thingCount >= MOST_THINGS) {
            return FULL;
        }
        things[thingCount].become(type);
        thingCount++;
        return thingCount - 1;
    }

    public int put(int x, int k, long v) {
        Thing thing = thingWithField(x, k);
        if (thing == null) {
            return NONE;
        }
        int lane = thing.type.lanes[k];
        if (lane != WHOLE && lane != WORD) {
            return failed(IS_CAST);
        }
        if (lane == WORD && v != NONE && !isWordInUse(v)) {
            return failed(IS_WORD);
        }
        return changeValue(thing, k, v);
    }

    public int refer(int x, int k, int y) {
        Thing thing = thingWithField(x, k);
        if (thing == null || (y != NONE && !isBelow(y, thingCount))) {
            return NONE;
        }
        if (thing.type.lanes[k] != THING) {
            return failed(IS_CAST);
        }
        return changeValue(thing, k, y);
    }

    public int row(int x, int k, int n) {
        Thing thing = thingWithField(x, k);
        if (thing == null) {
            return NONE;
        }
        if (n > MOST_ITEMS) {
            return BAD;
        }
        if (!isRowLane(thing.type.lanes[k])) {
            return failed(IS_CAST);
        }
        if (n < NONE) {
            return failed(IS_SIZE);
        }
        return changeRow(thing, k, n == NONE ? null : new Row(n));
    }

    public int share(int x, int k, int y, int j) {
        Thing thing = thingWithField(x, k);
        Thing source = thingWithField(y, j);
        if (thing == null || source == null) {
            return NONE;
        }
        int lane = thing.type.lanes[k];
        if (!isRowLane(lane) || source.type.lanes[j] != lane) {
            return failed(IS_CAST);
        }
        return changeRow(thing, k, source.rows[j]);
    }

    public int item(int x, int k, int i, long v) {
        Thing thing = thingWithField(x, k);
        if (thing == null) {
            return NONE;
        }
        int lane = thing.type.lanes[k];
        if (!isRowLane(lane)) {
            return failed(IS_CAST);
        }
        Row row = thing.rows[k];
        if (row == null) {
            return failed(IS_NULL);
        }
        if (!isBelow(i, row.items.length)) {
            return failed(IS_INDEX);
        }
        if (journal.isFull()) {
            return FULL;
        }
        journal.noteItem(row, i);
        row.items[i] = lowestBits(v, lane);
        return 1;
    }

    public long at(int x, int k) throws IllegalArgumentException, IndexOutOfBoundsException {
        Thing thing = thingNumbered(x);
        if (thing == null) {
            throw new IllegalArgumentException("no such thing");
        }
        if (!thing.type.hasField(k)) {
            throw new IndexOutOfBoundsException("no such field");
        }
        if (!isRowLane(thing.type.lanes[k])) {
            return thing.values[k];
        }
        Row row = thing.rows[k];
        return row == null ? NONE : row.items.length;
    }

    public long itemAt(int x, int k, int i)
            throws IllegalArgumentException, IllegalStateException, IndexOutOfBoundsException {
        Thing thing = thingNumbered(x);
        if (thing == null) {
            throw new IllegalArgumentException("no such thing");
        }
        if (!thing.type.hasField(k)) {
            throw new IndexOutOfBoundsException("no such field");
        }
        if (!isRowLane(thing.type.lanes[k])) {
            throw new IllegalStateException("no lane of rows");
        }
        Row row = thing.rows[k];
        if (row == null) {
            throw new IllegalStateException("no row");
        }
        if (!isBelow(i, row.items.length)) {
            throw new IndexOutOfBoundsException("no such item");
        }
        return row.items[i];
    }

    public int forget() {
        if (journal.markCount > 0) {
            return STATE;
        }
        int before = thingCount;
        thingCount = 0;
        return before;
    }

    public int told(int x, int what) {
        Thing thing = thingNumbered(x);
        if (thing == null) {
            return NONE;
        }
        switch (what) {
            case 0: return thing.type.number;
            case 1: return thing.type.fieldCount;
            default: return BAD;
        }
    }

    public int judge(int x) {
        Thing thing = thingNumbered(x);
        if (thing == null) {
            return NONE;
        }
        int c = firstFailingCheck(thing);
        return c == NONE ? 1 : failed(failureOf(thing, thing.type.checks[c]));
    }

    // ---- saves ----

    public int save(int s, int x) {
        Thing thing = thingNumbered(x);
        if (!isBelow(s, SAVES) || thing == null) {
            return NONE;
        }
        recordFrom(thing, spare);
        int slot = firstShutSlot(spare);
        if (slot != NONE) {
            latestFault.tell(slot / MOST_FIELDS, spare.names[slot], NONE);
            return failed(IS_SHUT);
        }
        Records replaced = saves[s];
        saves[s] = spare;
        spare = replaced;
        return saves[s].recordCount;
    }

    public int saved(int s, int what) {
        if (!isBelow(s, SAVES)) {
            return NONE;
        }
        switch (what) {
            case 0: return saves[s].recordCount;
            case 1: return saves[s].rowCount;
            default: return BAD;
        }
    }

    public int restore(int s, int rule) {
        if (!isBelow(s, SAVES) || saves[s].recordCount == 0) {
            return NONE;
        }
        if (!isBelow(rule, RULES)) {
            return BAD;
        }
        int first = thingCount;
        if (first + saves[s].recordCount > MOST_THINGS) {
            return FULL;
        }
        addThings(saves[s]);
        int failure = fillThings(saves[s], first, rule);
        if (failure == FINE) {
            failure = judgeThings(first);
        }
        if (failure != FINE) {
            thingCount = first;
            return failed(failure);
        }
        return first;
    }

    public int fault(int what) {
        if (!latestFault.isTold) {
            return NO_FAULT_YET;
        }
        switch (what) {
            case 0: return latestFault.record;
            case 1: return latestFault.name;
            case 2: return latestFault.check;
            default: return BAD;
        }
    }

    // ---- likeness ----

    public int like(int x, int y) {
        Thing one = thingNumbered(x);
        Thing other = thingNumbered(y);
        if (one == null || other == null) {
            return NONE;
        }
        // Records number things and rows in the order they are met, so two
        // things have equal records just if what they lead to pairs off one by one.
        recordFrom(one, spare);
        recordFrom(other, secondSpare);
        return firstDifference(spare, secondSpare) == NONE ? 1 : 0;
    }

    public int differs(int s, int x) {
        Thing thing = thingNumbered(x);
        if (!isBelow(s, SAVES) || saves[s].recordCount == 0 || thing == null) {
            return BAD;
        }
        recordFrom(thing, spare);
        return firstDifference(saves[s], spare);
    }

    // ---- marks ----

    public int mark() {
        if (journal.markCount >= MOST_MARKS) {
            return FULL;
        }
        journal.addMark();
        return journal.markCount;
    }

    public int undo() {
        return journal.markCount == 0 ? STATE : journal.undoLatestMark();
    }

    public int count(int what) {
        switch (what) {
            case 0: return typeCount;
            case 1: return thingCount;
            case 2: return journal.markCount;
            case 3: return journal.noteCount;
            default: return BAD;
        }
    }

    // ---- looking up ----

    private static boolean isBelow(int number, int bound) {
        return number >= 0 && number < bound;
    }

    private static boolean isRowLane(int lane) {
        return lane >= BYTES;
    }

    private static int failed(int failure) {
        return -10 - failure;
    }

    private boolean isWordInUse(long w) {
        return w >= 0 && w < WORDS && wordsInUse[(int) w];
    }

    private Type typeNumbered(int t) {
        return isBelow(t, typeCount) ? types[t] : null;
    }

    private Thing thingNumbered(long x) {
        return x >= 0 && x < thingCount ? things[(int) x] : null;
    }

    private Thing thingWithField(int x, int k) {
        Thing thing = thingNumbered(x);
        return thing != null && thing.type.hasField(k) ? thing : null;
    }

    // ---- changing ----

    private static long lowestBits(long v, int lane) {
        if (lane == BYTES) {
            return (byte) v;
        }
        return lane == INTS ? (int) v : v;
    }

    private int changeValue(Thing thing, int k, long v) {
        if (journal.isFull()) {
            return FULL;
        }
        journal.noteField(thing, k);
        thing.values[k] = v;
        return 1;
    }

    private int changeRow(Thing thing, int k, Row row) {
        if (journal.isFull()) {
            return FULL;
        }
        journal.noteField(thing, k);
        thing.rows[k] = row;
        return 1;
    }

    // ---- checks ----

    private int firstFailingCheck(Thing thing) {
        for (int c = 0; c < thing.type.checkCount; c++) {
            if (failureOf(thing, thing.type.checks[c]) != FINE) {
                return c;
            }
        }
        return NONE;
    }

    private int failureOf(Thing thing, Check check) {
        switch (check.kind) {
            case DIVIDES: return failureOfDivides(thing, check);
            case MEETS: return failureOfMeets(thing, check);
            case HAS: return failureOfHas(thing, check);
            case HOLDS: return failureOfHolds(thing, check);
            case LEAST: return failureOfLeast(thing, check);
            default: return failureOfLeads(thing, check);
        }
    }

    private static int failureOfDivides(Thing thing, Check check) {
        if (!thing.type.hasLane(check.a, WHOLE) || !thing.type.hasLane(check.b, WHOLE)) {
            return IS_CAST;
        }
        return thing.values[check.b] == 0 ? IS_DIVIDE : FINE;
    }

    private int failureOfMeets(Thing thing, Check check) {
        if (!thing.type.hasLane(check.a, THING)) {
            return IS_CAST;
        }
        Thing met = thingNumbered(thing.values[check.a]);
        if (met == null) {
            return IS_NULL;
        }
        return met.type.number == check.v ? FINE : IS_CAST;
    }

    private static int failureOfHas(Thing thing, Check check) {
        if (!thing.type.hasRowLane(check.a) || !thing.type.hasLane(check.b, WHOLE)) {
            return IS_CAST;
        }
        Row row = thing.rows[check.a];
        if (row == null) {
            return IS_NULL;
        }
        long i = thing.values[check.b];
        if (i < 0 || i >= row.items.length) {
            return IS_INDEX;
        }
        return row.items[(int) i] > check.v ? FINE : IS_OWN;
    }

    private static int failureOfHolds(Thing thing, Check check) {
        if (!thing.type.hasLane(check.a, WHOLE)) {
            return IS_CAST;
        }
        long length = thing.values[check.a];
        if (length > MOST_ITEMS) {
            return IS_OWN;
        }
        return length < 0 ? IS_SIZE : FINE;
    }

    private static int failureOfLeast(Thing thing, Check check) {
        if (!thing.type.hasLane(check.a, WHOLE)) {
            return IS_CAST;
        }
        return thing.values[check.a] < check.v ? IS_OWN : FINE;
    }

    private int failureOfLeads(Thing thing, Check check) {
        if (!thing.type.hasLane(check.a, THING)) {
            return IS_CAST;
        }
        Thing next = thingNumbered(thing.values[check.a]);
        if (next == null) {
            return IS_NULL;
        }
        int k = next.type.fieldNamed(thing.type.names[check.a]);
        if (!next.type.hasLane(k, THING)) {
            return IS_CAST;
        }
        return thingNumbered(next.values[k]) == null ? IS_NULL : FINE;
    }

    // ---- recording ----

    private void recordFrom(Thing root, Records into) {
        forgetNumbers();
        into.recordCount = 0;
        into.rowCount = 0;
        recordNumberOf(root, into);
        for (int r = 0; r < MOST_THINGS && r < into.recordCount; r++) {
            recordFields(recorded[r], r, into);
        }
    }

    private void forgetNumbers() {
        for (int x = 0; x < thingCount; x++) {
            things[x].forgetNumbers();
        }
    }

    private int recordNumberOf(Thing thing, Records into) {
        if (thing.recordNumber == NONE) {
            thing.recordNumber = into.recordCount;
            recorded[into.recordCount] = thing;
            into.types[into.recordCount] = thing.type.number;
            into.fieldCounts[into.recordCount] = thing.type.fieldCount;
            into.recordCount++;
        }
        return thing.recordNumber;
    }

    private void recordFields(Thing thing, int r, Records into) {
        for (int k = 0; k < thing.type.fieldCount; k++) {
            int slot = r * MOST_FIELDS + k;
            into.names[slot] = thing.type.names[k];
            into.lanes[slot] = thing.type.lanes[k];
            into.values[slot] = recordedValue(thing, k, into);
        }
    }

    private long recordedValue(Thing thing, int k, Records into) {
        int lane = thing.type.lanes[k];
        if (isRowLane(lane)) {
            return thing.rows[k] == null ? NONE : into.numberOf(thing.rows[k]);
        }
        if (lane == THING) {
            Thing next = thingNumbered(thing.values[k]);
            return next == null ? NONE : recordNumberOf(next, into);
        }
        return thing.values[k];
    }

    // Asked after recording, whose things still stand in recorded: shut fields hinder no comparison.
    private int firstShutSlot(Records records) {
        for (int r = 0; r < records.recordCount; r++) {
            Type type = recorded[r].type;
            for (int k = 0; k < type.fieldCount; k++) {
                if (type.shuts[k]) {
                    return r * MOST_FIELDS + k;
                }
            }
        }
        return NONE;
    }

    private static int firstDifference(Records one, Records other) {
        int most = Math.max(one.recordCount, other.recordCount);
        for (int r = 0; r < most; r++) {
            if (!one.hasShapeOf(other, r)) {
                return r * RECORD_STEP + SHAPE_DIFFERS;
            }
            for (int f = 0; f < one.fieldCounts[r]; f++) {
                int slot = r * MOST_FIELDS + f;
                if (!one.hasValueOf(other, slot)) {
                    return r * RECORD_STEP + one.names[slot];
                }
            }
        }
        return NONE;
    }

    // ---- putting back ----

    private void addThings(Records from) {
        for (int r = 0; r < from.recordCount; r++) {
            things[thingCount].become(types[from.types[r]]);
            thingCount++;
        }
    }

    private int fillThings(Records from, int first, int rule) {
        for (int i = 0; i < from.rowCount * ROW_LANES; i++) {
            rowsPutBack[i] = null;
        }
        for (int r = 0; r < from.recordCount; r++) {
            for (int f = 0; f < from.fieldCounts[r]; f++) {
                int slot = r * MOST_FIELDS + f;
                int failure = fillField(things[first + r], from, slot, first, rule);
                if (failure != FINE) {
                    latestFault.tell(r, from.names[slot], NONE);
                    return failure;
                }
            }
        }
        return FINE;
    }

    private int fillField(Thing thing, Records from, int slot, int first, int rule) {
        int k = thing.type.fieldNamed(from.names[slot]);
        if (k == NONE) {
            return (rule & GONE_LEFT_OUT) != 0 ? FINE : IS_GONE;
        }
        int lane = thing.type.lanes[k];
        if (!mayCome(from.lanes[slot], lane)) {
            return IS_LANE;
        }
        long value = from.values[slot];
        // Asked of the lane it comes to: a whole takes a word's number, in use or not.
        if (lane == WORD && value != NONE && !isWordInUse(value)) {
            if ((rule & UNUSED_WORDS_NONE) == 0) {
                return IS_WORD;
            }
            value = NONE;
        }
        if (isRowLane(lane)) {
            thing.rows[k] = value == NONE ? null : rowPutBack(from, (int) value, lane);
        } else if (lane == THING && value != NONE) {
            thing.values[k] = first + value;
        } else {
            thing.values[k] = value;
        }
        return FINE;
    }

    private static boolean mayCome(int from, int to) {
        if (from == to) {
            return true;
        }
        return from == WORD ? to == WHOLE : isRowLane(from) && to > from;
    }

    private Row rowPutBack(Records from, int number, int lane) {
        int i = number * ROW_LANES + lane - BYTES;
        if (rowsPutBack[i] == null) {
            rowsPutBack[i] = from.copyOfRow(number);
        }
        return rowsPutBack[i];
    }

    private int judgeThings(int first) {
        for (int x = first; x < thingCount; x++) {
            int c = firstFailingCheck(things[x]);
            if (c != NONE) {
                latestFault.tell(x - first, NONE, c);
                return failureOf(things[x], things[x].type.checks[c]);
            }
        }
        return FINE;
    }

    // ---- classes ----

    private static final class Type {
        final int number;
        int fieldCount;
        final int[] names = new int[MOST_FIELDS];
        final int[] lanes = new int[MOST_FIELDS];
        final long[] defaults = new long[MOST_FIELDS];
        final boolean[] shuts = new boolean[MOST_FIELDS];
        int checkCount;
        final Check[] checks = new Check[MOST_CHECKS];

        Type(int number) {
            this.number = number;
        }

        boolean hasField(int k) {
            return isBelow(k, fieldCount);
        }

        boolean hasLane(int k, int lane) {
            return hasField(k) && lanes[k] == lane;
        }

        boolean hasRowLane(int k) {
            return hasField(k) && isRowLane(lanes[k]);
        }

        int fieldNamed(int name) {
            for (int k = 0; k < fieldCount; k++) {
                if (names[k] == name) {
                    return k;
                }
            }
            return NONE;
        }

        int addField(int name, int lane, long value) {
            int k = fieldCount;
            names[k] = name;
            lanes[k] = lane;
            defaults[k] = value;
            shuts[k] = false;
            fieldCount++;
            return k;
        }

        void removeField(int k) {
            for (int i = k; i + 1 < fieldCount; i++) {
                names[i] = names[i + 1];
                lanes[i] = lanes[i + 1];
                defaults[i] = defaults[i + 1];
                shuts[i] = shuts[i + 1];
            }
            fieldCount--;
        }
    }

    private static final class Check {
        final int kind;
        final int a;
        final int b;
        final long v;

        Check(int kind, int a, int b, long v) {
            this.kind = kind;
            this.a = a;
            this.b = b;
            this.v = v;
        }
    }

    private static final class Thing {
        Type type;
        final long[] values = new long[MOST_FIELDS];
        final Row[] rows = new Row[MOST_FIELDS];
        int recordNumber;

        void become(Type newType) {
            type = newType;
            for (int k = 0; k < newType.fieldCount; k++) {
                setDefault(k);
            }
        }

        void setDefault(int k) {
            values[k] = type.defaults[k];
            rows[k] = null;
        }

        void removeField(int k) {
            for (int i = k; i + 1 < MOST_FIELDS; i++) {
                values[i] = values[i + 1];
                rows[i] = rows[i + 1];
            }
        }

        void forgetNumbers() {
            recordNumber = NONE;
            for (int k = 0; k < type.fieldCount; k++) {
                if (rows[k] != null) {
                    rows[k].number = NONE;
                }
            }
        }
    }

    private static final class Row {
        final long[] items;
        int number;

        Row(int length) {
            items = new long[length];
        }
    }

    /** What a save keeps; a field's slot is its record's number times MOST_FIELDS, and its own. */
    private static final class Records {
        int recordCount;
        final int[] types = new int[MOST_THINGS];
        final int[] fieldCounts = new int[MOST_THINGS];
        final int[] names = new int[MOST_SLOTS];
        final int[] lanes = new int[MOST_SLOTS];
        final long[] values = new long[MOST_SLOTS];
        int rowCount;
        final int[] rowLengths = new int[MOST_SLOTS];
        final long[] items = new long[MOST_SLOTS * MOST_ITEMS];

        int numberOf(Row row) {
            if (row.number == NONE) {
                row.number = rowCount;
                rowLengths[rowCount] = row.items.length;
                for (int i = 0; i < row.items.length; i++) {
                    items[rowCount * MOST_ITEMS + i] = row.items[i];
                }
                rowCount++;
            }
            return row.number;
        }

        Row copyOfRow(int number) {
            Row copy = new Row(rowLengths[number]);
            for (int i = 0; i < copy.items.length; i++) {
                copy.items[i] = items[number * MOST_ITEMS + i];
            }
            return copy;
        }

        boolean hasShapeOf(Records other, int r) {
            if (r >= recordCount || r >= other.recordCount || types[r] != other.types[r]
                    || fieldCounts[r] != other.fieldCounts[r]) {
                return false;
            }
            for (int f = 0; f < fieldCounts[r]; f++) {
                int slot = r * MOST_FIELDS + f;
                if (names[slot] != other.names[slot] || lanes[slot] != other.lanes[slot]) {
                    return false;
                }
            }
            return true;
        }

        boolean hasValueOf(Records other, int slot) {
            long value = values[slot];
            if (value != other.values[slot]) {
                return false;
            }
            return !isRowLane(lanes[slot]) || value == NONE || hasItemsOf(other, (int) value);
        }

        boolean hasItemsOf(Records other, int number) {
            if (rowLengths[number] != other.rowLengths[number]) {
                return false;
            }
            for (int i = 0; i < rowLengths[number]; i++) {
                if (items[number * MOST_ITEMS + i] != other.items[number * MOST_ITEMS + i]) {
                    return false;
                }
            }
            return true;
        }
    }

    /** One change as it was before: an item of a row, or (thing set) all that a field had. */
    private static final class Note {
        Thing thing;
        int index;
        long value;
        Row row;

        void takeBack() {
            if (thing != null) {
                thing.values[index] = value;
                thing.rows[index] = row;
            } else if (row != null) {
                row.items[index] = value;
            }
        }
    }

    private static final class Journal {
        final Note[] notes = new Note[MOST_NOTES];
        int noteCount;
        final int[] starts = new int[MOST_MARKS];
        int markCount;

        Journal() {
            for (int i = 0; i < MOST_NOTES; i++) {
                notes[i] = new Note();
            }
        }

        /** Notes are there only while a mark stands, so without one this is never so. */
        boolean isFull() {
            return noteCount >= MOST_NOTES;
        }

        void noteField(Thing thing, int k) {
            write(thing, k, thing.values[k], thing.rows[k]);
        }

        void noteItem(Row row, int i) {
            write(null, i, row.items[i], row);
        }

        private void write(Thing thing, int index, long value, Row row) {
            if (markCount == 0 || isFull()) {
                return;
            }
            Note note = notes[noteCount];
            note.thing = thing;
            note.index = index;
            note.value = value;
            note.row = row;
            noteCount++;
        }

        void addMark() {
            starts[markCount] = noteCount;
            markCount++;
        }

        int undoLatestMark() {
            markCount--;
            int start = starts[markCount];
            int undone = noteCount - start;
            for (int i = noteCount - 1; i >= start; i--) {
                notes[i].takeBack();
            }
            noteCount = start;
            return undone;
        }
    }

    private static final class Fault {
        boolean isTold;
        int record;
        int name;
        int check;

        void tell(int newRecord, int newName, int newCheck) {
            isTold = true;
            record = newRecord;
            name = newName;
            check = newCheck;
        }
    }
}
