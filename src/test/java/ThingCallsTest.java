/** Promises 10 to 19: the calls that change THINGS and look at them. */
final class ThingCallsTest extends Sentences {
    public static void main(String[] args) {
        run(ThingCallsTest.class);
    }

    /** THING 0 with something in each FIELD, THING 1 with nothing, THING 2 with a LONG; a CHECK and a SAVE. */
    private static World small() {
        World w = World.of(WHOLE, WORD, THING, BYTES, INTS).typed(LONGS).things(2, 0).things(1, 1);
        w.put(0, 0, 9);
        w.put(0, 1, 4);
        w.refer(0, 2, 1);
        w.row(0, 3, 2);
        w.item(0, 3, 1, -3);
        w.row(0, 4, 0);
        w.row(2, 0, 1);
        w.check(0, LEAST, 0, 0, 8);
        w.save(0, 0);
        w.word(7, false);
        return w;
    }

    /** The same with 80 noted changes, so that one more is FULL. */
    private static World noted() {
        World w = small();
        w.mark();
        for (int i = 0; i < 80; i++) {
            w.put(0, 0, i);
        }
        return w;
    }

    // ---- put ----

    @Says(in = "Promise 10", value = "A WHOLE becomes v, or a WORD that one (-1: NONE): 1.")
    static void putChanges() {
        World w = small();
        for (long v : new long[] {LONG_MIN, LONG_MAX, INT_MIN, INT_MAX, -1, 0, 16, TWO_32}) {
            due("whole", w.put(0, 0, v), 1);
            due("is", w.at(0, 0), v);
        }
        for (long v : new long[] {15, 0, -1}) {
            due("word", w.put(0, 1, v), 1);
            due("is", w.at(0, 1), v);
        }
        due("another thing's whole", w.at(1, 0), 7);
        due("another thing's word", w.at(1, 1), NONE);
    }

    @Says(in = "Promise 10", value = "NONE: THING, FIELD")
    static void putOfNone() {
        for (int x : outside(0, 2)) {
            refused("thing " + x, ThingCallsTest::small, w -> w.put(x, 0, 1), NONE);
        }
        for (int k : outside(0, 4)) {
            refused("field " + k, ThingCallsTest::small, w -> w.put(0, k, 1), NONE);
        }
        refused("thing, when full", ThingCallsTest::noted, w -> w.put(3, 0, 1), NONE);
        refused("field, when full", ThingCallsTest::noted, w -> w.put(2, 1, 1), NONE);
    }

    @Says(in = "Promise 10", value = "FAILED by CAST: another LANE")
    static void putFailsByCast() {
        for (int k = 2; k < 5; k++) {
            int other = k;
            refused("field " + k, ThingCallsTest::small, w -> w.put(0, other, 1), CAST);
            refused("and no word", ThingCallsTest::small, w -> w.put(0, other, 16), CAST);
            refused("when full", ThingCallsTest::noted, w -> w.put(0, other, 1), CAST);
        }
        refused("longs", ThingCallsTest::small, w -> w.put(2, 0, 1), CAST);
    }

    @Says(in = "Promise 10", value = "by WORD: it is none in USE")
    static void putFailsByWord() {
        for (long v : new long[] {16, -2, 7, LONG_MIN, LONG_MAX, TWO_32, TWO_32 - 1, 256}) {
            refused("word " + v, ThingCallsTest::small, w -> w.put(0, 1, v), WORD_OUT);
        }
        refused("when full", ThingCallsTest::noted, w -> w.put(0, 1, 7), WORD_OUT);
        refused("when full", ThingCallsTest::noted, w -> w.put(0, 1, 16), WORD_OUT);
    }

    @Says(in = "Promise 10", value = "FULL.")
    static void putIsFull() {
        refused("whole", ThingCallsTest::noted, w -> w.put(0, 0, 1), FULL);
        refused("the same whole", ThingCallsTest::noted, w -> w.put(0, 0, 79), FULL);
        refused("word", ThingCallsTest::noted, w -> w.put(0, 1, 15), FULL);
        refused("no word", ThingCallsTest::noted, w -> w.put(0, 1, -1), FULL);
    }

    // ---- refer ----

    @Says(in = "Promise 11", value = "A THING FIELD leads to y (-1: NONE): 1.")
    static void referLeads() {
        World w = small();
        for (int y : new int[] {0, 1, 2, -1}) {
            due("refer to " + y, w.refer(0, 2, y), 1);
            due("is", w.at(0, 2), y);
        }
        due("a thing that is not there yet", w.refer(0, 2, 3), NONE);
        w.thing(1);
        due("it is there", w.refer(0, 2, 3), 1);
    }

    @Says(in = "Promise 11", value = "NONE: THING, FIELD, y")
    static void referOfNone() {
        for (int x : outside(0, 2)) {
            refused("thing " + x, ThingCallsTest::small, w -> w.refer(x, 2, 0), NONE);
        }
        for (int k : outside(0, 4)) {
            refused("field " + k, ThingCallsTest::small, w -> w.refer(0, k, 0), NONE);
        }
        for (int y : new int[] {-2, 3, INT_MIN, INT_MAX, 256}) {
            refused("y " + y, ThingCallsTest::small, w -> w.refer(0, 2, y), NONE);
            refused("y " + y + " of another lane", ThingCallsTest::small, w -> w.refer(0, 0, y), NONE);
            refused("y " + y + " when full", ThingCallsTest::noted, w -> w.refer(0, 2, y), NONE);
        }
        refused("thing, when full", ThingCallsTest::noted, w -> w.refer(3, 2, 0), NONE);
        refused("field, when full", ThingCallsTest::noted, w -> w.refer(0, 5, 0), NONE);
    }

    @Says(in = "Promise 11", value = "FAILED by CAST")
    static void referFailsByCast() {
        for (int k : new int[] {0, 1, 3, 4}) {
            refused("field " + k, ThingCallsTest::small, w -> w.refer(0, k, 0), CAST);
            refused("to none", ThingCallsTest::small, w -> w.refer(0, k, -1), CAST);
            refused("when full", ThingCallsTest::noted, w -> w.refer(0, k, 0), CAST);
        }
        refused("longs", ThingCallsTest::small, w -> w.refer(2, 0, 0), CAST);
    }

    @Says(in = "Promise 11", value = "FULL.")
    static void referIsFull() {
        refused("to one", ThingCallsTest::noted, w -> w.refer(0, 2, 0), FULL);
        refused("to none", ThingCallsTest::noted, w -> w.refer(0, 2, -1), FULL);
    }

    // ---- row ----

    @Says(in = "Promise 12", value = "A FIELD has a new ROW of its LANE, of n items 0 (n = -1: none): 1.")
    static void rowIsNew() {
        for (int lane = BYTES; lane <= LONGS; lane++) {
            World w = World.of(lane).things(2, 0);
            for (int n = 0; n <= 12; n++) {
                due("row of " + n, w.row(0, 0, n), 1);
                for (int i = 0; i < n; i++) {
                    due("item " + i, w.itemAt(0, 0, i), 0);
                }
            }
            w.share(1, 0, 0, 0);
            w.item(0, 0, 11, 5);
            due("as long as the last", w.row(0, 0, 12), 1);
            due("but new", w.itemAt(0, 0, 11), 0);
            due("the other field keeps the last", w.itemAt(1, 0, 11), 5);
            due("none", w.row(0, 0, -1), 1);
            due("none", w.at(0, 0), NONE);
            due("none again", w.row(0, 0, -1), 1);
            due("none has no item", w.itemAt(0, 0, 0), ILLEGAL_STATE);
        }
    }

    @Says(in = "Promise 12", value = "of its LANE")
    static void rowIsOfItsLane() {
        long[] kept = {-2, -2, TWO_32 - 2};
        for (int lane = BYTES; lane <= LONGS; lane++) {
            World w = World.of(lane).things(1, 0);
            w.row(0, 0, 1);
            w.item(0, 0, 0, TWO_32 - 2);
            due("lane " + lane, w.itemAt(0, 0, 0), kept[lane - BYTES]);
        }
    }

    @Says(in = "Promise 12", value = "NONE;")
    static void rowOfNone() {
        for (int x : outside(0, 2)) {
            refused("thing " + x, ThingCallsTest::small, w -> w.row(x, 3, 1), NONE);
        }
        for (int k : outside(0, 4)) {
            refused("field " + k, ThingCallsTest::small, w -> w.row(0, k, 1), NONE);
        }
        refused("thing, and above 12", ThingCallsTest::small, w -> w.row(3, 3, 13), NONE);
        refused("field, and below -1", ThingCallsTest::small, w -> w.row(0, 5, -2), NONE);
        refused("thing, when full", ThingCallsTest::noted, w -> w.row(3, 3, 1), NONE);
    }

    @Says(in = "Promise 12", value = "BAD: n is above 12")
    static void rowIsTooLong() {
        for (int n : new int[] {13, 14, 256, 65536, INT_MAX}) {
            refused("of " + n, ThingCallsTest::small, w -> w.row(0, 3, n), BAD);
            refused("of " + n + " of another lane", ThingCallsTest::small, w -> w.row(0, 0, n), BAD);
            refused("of " + n + " when full", ThingCallsTest::noted, w -> w.row(0, 3, n), BAD);
        }
    }

    @Says(in = "Promise 12", value = "FAILED by CAST: no LANE of ROWS")
    static void rowFailsByCast() {
        for (int k = 0; k < 3; k++) {
            int other = k;
            for (int n : new int[] {-2, -1, 0, 12, INT_MIN}) {
                refused("field " + k + " of " + n, ThingCallsTest::small, w -> w.row(0, other, n), CAST);
            }
            refused("when full", ThingCallsTest::noted, w -> w.row(0, other, 1), CAST);
        }
    }

    @Says(in = "Promise 12", value = "by SIZE: n is below -1")
    static void rowFailsBySize() {
        for (int n : new int[] {-2, -3, -256, INT_MIN}) {
            refused("of " + n, ThingCallsTest::small, w -> w.row(0, 3, n), SIZE);
            refused("of " + n, ThingCallsTest::small, w -> w.row(1, 4, n), SIZE);
            refused("of " + n, ThingCallsTest::small, w -> w.row(2, 0, n), SIZE);
            refused("of " + n + " when full", ThingCallsTest::noted, w -> w.row(0, 3, n), SIZE);
        }
    }

    @Says(in = "Promise 12", value = "FULL.")
    static void rowIsFull() {
        refused("a row", ThingCallsTest::noted, w -> w.row(0, 3, 2), FULL);
        refused("an empty one", ThingCallsTest::noted, w -> w.row(1, 3, 0), FULL);
        refused("none", ThingCallsTest::noted, w -> w.row(0, 3, -1), FULL);
    }

    // ---- share ----

    @Says(in = "Promise 13", value = "FIELD k of x has the ROW (or none) that FIELD j of y has: 1.")
    static void shareGivesTheRow() {
        for (int lane = BYTES; lane <= LONGS; lane++) {
            World w = World.of(lane, lane).typed(WHOLE, lane).things(1, 0).things(1, 1);
            w.row(0, 0, 12);
            due("within a thing", w.share(0, 1, 0, 0), 1);
            due("with another", w.share(1, 1, 0, 1), 1);
            w.item(1, 1, 11, 3);
            due("one row", w.itemAt(0, 0, 11), 3);
            due("with itself", w.share(0, 0, 0, 0), 1);
            due("it is still the one", w.itemAt(0, 0, 11), 3);
            w.row(0, 0, -1);
            due("none", w.share(0, 1, 0, 0), 1);
            due("none", w.at(0, 1), NONE);
            due("the last field keeps it", w.at(1, 1), 12);
            due("none in both", w.share(0, 0, 0, 1), 1);
        }
    }

    @Says(in = "Promise 13", value = "NONE;")
    static void shareOfNone() {
        for (int n : outside(0, 2)) {
            refused("x " + n, ThingCallsTest::small, w -> w.share(n, 3, 0, 3), NONE);
            refused("y " + n, ThingCallsTest::small, w -> w.share(1, 3, n, 3), NONE);
        }
        for (int n : outside(0, 4)) {
            refused("k " + n, ThingCallsTest::small, w -> w.share(1, n, 0, 3), NONE);
            refused("j " + n, ThingCallsTest::small, w -> w.share(1, 3, 0, n), NONE);
        }
        refused("y, and k is of another lane", ThingCallsTest::small, w -> w.share(0, 0, 3, 3), NONE);
        refused("j, and k is of another lane", ThingCallsTest::small, w -> w.share(0, 0, 2, 1), NONE);
        refused("x, and j is of another lane", ThingCallsTest::small, w -> w.share(3, 0, 0, 0), NONE);
        refused("y, when full", ThingCallsTest::noted, w -> w.share(0, 3, 3, 3), NONE);
    }

    @Says(in = "Promise 13", value = "FAILED by CAST: no LANES of ROWS, or other ones")
    static void shareFailsByCast() {
        for (int k = 0; k < 5; k++) {
            for (int j = 0; j < 5; j++) {
                if (k == j && k >= 3) {
                    continue;
                }
                int to = k;
                int from = j;
                refused(j + " to " + k, ThingCallsTest::small, w -> w.share(1, to, 0, from), CAST);
            }
            int other = k;
            refused("longs to " + k, ThingCallsTest::small, w -> w.share(1, other, 2, 0), CAST);
            refused(k + " to longs", ThingCallsTest::small, w -> w.share(2, 0, 1, other), CAST);
        }
        refused("when full", ThingCallsTest::noted, w -> w.share(0, 3, 0, 4), CAST);
        refused("when full", ThingCallsTest::noted, w -> w.share(0, 0, 0, 0), CAST);
    }

    @Says(in = "Promise 13", value = "FULL.")
    static void shareIsFull() {
        refused("a row", ThingCallsTest::noted, w -> w.share(1, 3, 0, 3), FULL);
        refused("none", ThingCallsTest::noted, w -> w.share(0, 3, 1, 3), FULL);
        refused("with itself", ThingCallsTest::noted, w -> w.share(0, 3, 0, 3), FULL);
    }

    // ---- item ----

    @Says(in = "Promise 14", value = "Item i of a FIELD's ROW becomes v .. : 1.")
    static void itemChanges() {
        for (int lane = BYTES; lane <= LONGS; lane++) {
            World w = World.of(lane).things(1, 0);
            w.row(0, 0, 12);
            for (int i = 0; i < 12; i++) {
                due("item", w.item(0, 0, i, i + 1), 1);
            }
            for (int i = 0; i < 12; i++) {
                due("item " + i, w.itemAt(0, 0, i), i + 1);
            }
        }
    }

    @Says(in = "Promise 14", value = "(of BYTES, INTS the lowest bits)")
    static void itemTakesTheLowestBits() {
        long[] values = {127, 128, 255, 256, -128, -129, -256, 300, INT_MAX, INT_MAX + 1L, TWO_32 - 1, TWO_32,
            TWO_32 + 200, INT_MIN, INT_MIN - 1L, -TWO_32, LONG_MAX, LONG_MIN};
        long[] bytes = {127, -128, -1, 0, -128, 127, 0, 44, -1, 0, -1, 0, -56, 0, -1, 0, -1, 0};
        long[] ints = {127, 128, 255, 256, -128, -129, -256, 300, INT_MAX, INT_MIN, -1, 0, 200, INT_MIN, INT_MAX, 0, -1, 0};
        World w = World.of(BYTES, INTS, LONGS).things(1, 0);
        for (int k = 0; k < 3; k++) {
            w.row(0, k, 2);
        }
        for (int n = 0; n < values.length; n++) {
            for (int k = 0; k < 3; k++) {
                due("item", w.item(0, k, 1, values[n]), 1);
            }
            due("bytes of " + values[n], w.itemAt(0, 0, 1), bytes[n]);
            due("ints of " + values[n], w.itemAt(0, 1, 1), ints[n]);
            due("longs of " + values[n], w.itemAt(0, 2, 1), values[n]);
        }
        due("the next item", w.itemAt(0, 0, 0), 0);
    }

    @Says(in = "Promise 14", value = "the lowest bits")
    static void lowestBitsAreWhatIsLike() {
        World w = World.of(BYTES).things(2, 0);
        w.row(0, 0, 1);
        w.row(1, 0, 1);
        w.item(0, 0, 0, 0x1FF);
        w.item(1, 0, 0, -1);
        due("like", w.like(0, 1), 1);
        w.save(0, 0);
        due("alike", w.differs(0, 1), NONE);
    }

    @Says(in = "Promise 14", value = "NONE;")
    static void itemOfNone() {
        for (int x : outside(0, 2)) {
            refused("thing " + x, ThingCallsTest::small, w -> w.item(x, 3, 0, 1), NONE);
        }
        for (int k : outside(0, 4)) {
            refused("field " + k, ThingCallsTest::small, w -> w.item(0, k, 0, 1), NONE);
        }
        refused("thing, when full", ThingCallsTest::noted, w -> w.item(3, 3, 0, 1), NONE);
    }

    @Says(in = "Promise 14", value = "FAILED by CAST")
    static void itemFailsByCast() {
        for (int k = 0; k < 3; k++) {
            int other = k;
            for (int i : new int[] {0, -1, 12, INT_MIN, INT_MAX}) {
                refused("field " + k + " item " + i, ThingCallsTest::small, w -> w.item(0, other, i, 1), CAST);
            }
            refused("when full", ThingCallsTest::noted, w -> w.item(0, other, 0, 1), CAST);
        }
    }

    @Says(in = "Promise 14", value = "NULL")
    static void itemFailsByNull() {
        for (int i : new int[] {0, -1, 12, INT_MIN, INT_MAX}) {
            refused("item " + i, ThingCallsTest::small, w -> w.item(1, 3, i, 1), NULL);
            refused("item " + i, ThingCallsTest::small, w -> w.item(1, 4, i, 1), NULL);
        }
        refused("when full", ThingCallsTest::noted, w -> w.item(1, 3, 0, 1), NULL);
        refused("when full", ThingCallsTest::noted, w -> w.item(1, 3, -1, 1), NULL);
    }

    @Says(in = "Promise 14", value = "INDEX")
    static void itemFailsByIndex() {
        for (int i : outside(0, 1)) {
            refused("item " + i, ThingCallsTest::small, w -> w.item(0, 3, i, 1), INDEX);
        }
        for (int i : new int[] {0, -1, 1}) {
            refused("item " + i + " of an empty row", ThingCallsTest::small, w -> w.item(0, 4, i, 1), INDEX);
        }
        refused("when full", ThingCallsTest::noted, w -> w.item(0, 3, 2, 1), INDEX);
        World w = World.of(LONGS).things(1, 0);
        w.row(0, 0, 12);
        due("the last", w.item(0, 0, 11, 1), 1);
        due("behind it", w.item(0, 0, 12, 1), INDEX);
    }

    @Says(in = "Promise 14", value = "FULL.")
    static void itemIsFull() {
        refused("item", ThingCallsTest::noted, w -> w.item(0, 3, 0, 1), FULL);
        refused("the same", ThingCallsTest::noted, w -> w.item(0, 3, 1, -3), FULL);
        refused("longs", ThingCallsTest::noted, w -> w.item(2, 0, 0, 1), FULL);
    }

    // ---- at, itemAt ----

    @Says(in = "Promise 15", value = "A WHOLE, a WORD's or a THING's number (-1: NONE), how many items a ROW has (-1: none).")
    static void atTells() {
        World w = small();
        long[] of0 = {9, 4, 1, 2, 0};
        long[] of1 = {7, -1, -1, -1, -1};
        for (int k = 0; k < 5; k++) {
            due("thing 0, field " + k, w.at(0, k), of0[k]);
            due("thing 1, field " + k, w.at(1, k), of1[k]);
        }
        due("longs", w.at(2, 0), 1);
    }

    @Says(in = "Promise 15", value = "IllegalArgumentException: no such THING")
    static void atOfNoThing() {
        for (int x : outside(0, 2)) {
            refused("thing " + x, ThingCallsTest::small, w -> w.at(x, 0), ARGUMENT);
            refused("and no field", ThingCallsTest::small, w -> w.at(x, 5), ARGUMENT);
            refused("and no field", ThingCallsTest::small, w -> w.at(x, -1), ARGUMENT);
        }
        due("no things", World.of(WHOLE).at(0, 0), ARGUMENT);
    }

    @Says(in = "Promise 15", value = "IndexOutOfBoundsException: no such FIELD")
    static void atOfNoField() {
        for (int k : outside(0, 4)) {
            refused("field " + k, ThingCallsTest::small, w -> w.at(0, k), OUT_OF_BOUNDS);
        }
        refused("field 1 of the other type", ThingCallsTest::small, w -> w.at(2, 1), OUT_OF_BOUNDS);
        due("no fields", World.of().things(1, 0).at(0, 0), OUT_OF_BOUNDS);
    }

    @Says(in = "Promise 16", value = "Item i of a ROW.")
    static void itemAtTells() {
        World w = small();
        due("first", w.itemAt(0, 3, 0), 0);
        due("last", w.itemAt(0, 3, 1), -3);
        due("longs", w.itemAt(2, 0, 0), 0);
        w.item(2, 0, 0, LONG_MIN);
        due("the least", w.itemAt(2, 0, 0), LONG_MIN);
    }

    @Says(in = "Promise 16", value = "IllegalArgumentException: no such THING")
    static void itemAtOfNoThing() {
        for (int x : outside(0, 2)) {
            refused("thing " + x, ThingCallsTest::small, w -> w.itemAt(x, 3, 0), ARGUMENT);
            refused("no field", ThingCallsTest::small, w -> w.itemAt(x, 5, 0), ARGUMENT);
            refused("no lane of rows", ThingCallsTest::small, w -> w.itemAt(x, 0, 0), ARGUMENT);
            refused("no item", ThingCallsTest::small, w -> w.itemAt(x, 3, -1), ARGUMENT);
        }
    }

    @Says(in = "Promise 16", value = "IllegalStateException: no LANE of ROWS, no ROW")
    static void itemAtOfNoRow() {
        for (int i : new int[] {0, -1, 12, INT_MIN, INT_MAX}) {
            for (int k = 0; k < 3; k++) {
                int other = k;
                refused("lane of field " + k, ThingCallsTest::small, w -> w.itemAt(0, other, i), ILLEGAL_STATE);
            }
            refused("no bytes", ThingCallsTest::small, w -> w.itemAt(1, 3, i), ILLEGAL_STATE);
            refused("no ints", ThingCallsTest::small, w -> w.itemAt(1, 4, i), ILLEGAL_STATE);
        }
    }

    @Says(in = "Promise 16", value = "IndexOutOfBoundsException: no such FIELD, item")
    static void itemAtOfNoFieldOrItem() {
        for (int k : outside(0, 4)) {
            refused("field " + k, ThingCallsTest::small, w -> w.itemAt(0, k, 0), OUT_OF_BOUNDS);
        }
        for (int i : outside(0, 1)) {
            refused("item " + i, ThingCallsTest::small, w -> w.itemAt(0, 3, i), OUT_OF_BOUNDS);
        }
        refused("item 0 of an empty row", ThingCallsTest::small, w -> w.itemAt(0, 4, 0), OUT_OF_BOUNDS);
        World w = World.of(BYTES).things(1, 0);
        w.row(0, 0, 12);
        due("item 11", w.itemAt(0, 0, 11), 0);
        due("item 12", w.itemAt(0, 0, 12), OUT_OF_BOUNDS);
    }

    // ---- forget, told, judge ----

    @Says(in = "Promise 17", value = "All THINGS go (SAVES stay): how many.")
    static void forgetTellsHowMany() {
        due("none", World.of().forget(), 0);
        due("thirty", World.of().things(30, 0).forget(), 30);
        World w = small();
        due("three", w.forget(), 3);
        due("things", w.count(1), 0);
        due("again", w.forget(), 0);
        for (int x = 0; x < 3; x++) {
            due("thing " + x, w.told(x, 0), NONE);
        }
        due("types stay", w.count(0), 2);
        due("records stay", w.saved(0, 0), 2);
        due("rows stay", w.saved(0, 1), 2);
        due("checks stay", w.unchecked(0), 1);
        due("words stay", w.word(7, true), 0);
        due("put back", w.restore(0, 0), 0);
        due("item", w.itemAt(0, 3, 1), -3);
        due("leads on", w.at(0, 2), 1);
    }

    private static World marked() {
        World w = small();
        w.mark();
        return w;
    }

    @Says(in = "Promise 17", value = "STATE.")
    static void forgetWhileAMarkStands() {
        refused("a mark", ThingCallsTest::marked, w -> w.forget(), STATE);
        refused("a mark and changes", ThingCallsTest::noted, w -> w.forget(), STATE);
        World w = marked();
        w.undo();
        due("the mark is gone", w.forget(), 3);
    }

    @Says(in = "Promise 18", value = "Of a THING: what = 0 its TYPE, 1 how many FIELDS.")
    static void toldTells() {
        World w = small();
        due("type", w.told(1, 0), 0);
        due("fields", w.told(1, 1), 5);
        due("type", w.told(2, 0), 1);
        due("fields", w.told(2, 1), 1);
        w.drop(1, 0);
        due("fields now", w.told(2, 1), 0);
    }

    @Says(in = "Promise 18", value = "NONE; BAD.")
    static void toldIsRefused() {
        for (int x : outside(0, 2)) {
            refused("thing " + x, ThingCallsTest::small, w -> w.told(x, 0), NONE);
            refused("and what", ThingCallsTest::small, w -> w.told(x, 2), NONE);
        }
        for (int what : outside(0, 1)) {
            refused("what " + what, ThingCallsTest::small, w -> w.told(0, what), BAD);
        }
    }

    @Says(in = "Promise 19", value = "The CHECKS of a THING are done: 1; FAILED by the first.")
    static void judgeTells() {
        due("no checks", World.of().things(1, 0).judge(0), 1);
        World w = small();
        due("fine", w.judge(0), 1);
        refused("fails", ThingCallsTest::small, v -> v.judge(1), OWN);
        w.check(0, MEETS, 2, 0, 1);
        w.check(0, DIVIDES, 1, 0, 0);
        due("by the second", w.judge(0), CAST);
        w.refer(0, 2, -1);
        due("by the second", w.judge(0), NULL);
        due("by the first", w.judge(1), OWN);
        due("of another type", w.judge(2), 1);
        due("no fault is told", w.fault(0), NO_FAULT);
    }

    @Says(in = "Promise 19", value = "NONE.")
    static void judgeOfNone() {
        for (int x : outside(0, 2)) {
            refused("thing " + x, ThingCallsTest::small, w -> w.judge(x), NONE);
        }
    }
}
