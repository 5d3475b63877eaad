/** The sentences of "Terms" ahead of SAVES: TYPES, FIELDS, LANES, WORDS, THINGS, ROWS, FAILURES, CHECKS. */
final class TermsTest extends Sentences {
    public static void main(String[] args) {
        run(TermsTest.class);
    }

    @Says(in = "What it is", value = "An object is used for at most 512 calls after it has been made")
    static void allOf512CallsAreAnswered() {
        World w = World.of(THING, LONGS).things(30, 0);
        for (int x = 0; x < 30; x++) {
            w.refer(x, 0, (x + 1) % 30);
            w.row(x, 1, 12);
        }
        w.save(0, 0);
        // 3 calls for the type, 90 for the things, 1 save: 418 are left.
        for (int i = 0; i < 209; i++) {
            due("forget", w.forget(), 30);
            due("restore", w.restore(0, 0), 0);
        }
        boolean isUsedUp = false;
        try {
            w.count(0);
        } catch (AssertionError e) {
            isUsedUp = true;
        }
        due("the last was the 512th", isUsedUp ? 1 : 0, 1);
    }

    // ---- types, fields, names, lanes ----

    @Says(in = "What it is", value = "TYPES 0 ..")
    static void typesAreEight() {
        World w = new World();
        for (int t = 0; t < 8; t++) {
            due("thing of a type to come", w.thing(t), NONE);
            due("type", w.type(), t);
            due("thing", w.thing(t), t);
        }
        due("ninth", w.type(), FULL);
        for (int t : outside(0, 7)) {
            due("thing of type " + t, w.thing(t), NONE);
        }
    }

    @Says(in = "Terms", value = "have FIELDS 0, 1, .. (5 at most)")
    static void fieldsAreFiveAtMost() {
        World w = World.of().things(1, 0);
        due("no fields", w.told(0, 1), 0);
        due("field 0 to come", w.at(0, 0), OUT_OF_BOUNDS);
        for (int k = 0; k < 5; k++) {
            due("field", w.field(0, k, WHOLE, k), k);
            due("its value", w.at(0, k), k);
        }
        due("sixth", w.field(0, 5, WHOLE, 0), FULL);
        due("fields", w.told(0, 1), 5);
        due("field 5", w.at(0, 5), OUT_OF_BOUNDS);
        w.drop(0, 2);
        due("a place again", w.field(0, 5, WHOLE, 0), 4);
        due("and no other", w.field(0, 6, WHOLE, 0), FULL);
    }

    @Says(in = "Terms", value = "(5 at most)")
    static void anotherTypeHasFiveOfItsOwn() {
        World w = World.of(WHOLE, WHOLE, WHOLE, WHOLE, WHOLE).typed();
        for (int k = 0; k < 5; k++) {
            due("field", w.field(1, k, WHOLE, 0), k);
        }
    }

    @Says(in = "Terms", value = "each with a NAME (0 .. 19;")
    static void namesAreTwenty() {
        for (int first = 0; first < 20; first += 5) {
            World w = World.of();
            for (int k = 0; k < 5; k++) {
                due("name " + (first + k), w.field(0, first + k, WHOLE, 0), k);
            }
        }
        World w = World.of();
        for (int name : outside(0, 19)) {
            due("name " + name, w.field(0, name, WHOLE, 0), BAD);
        }
    }

    @Says(in = "Terms", value = "a TYPE has none twice")
    static void noNameTwice() {
        World w = World.of();
        for (int name = 0; name < 4; name++) {
            w.field(0, name, WHOLE, 0);
        }
        for (int name = 0; name < 4; name++) {
            for (int lane = 0; lane < 6; lane++) {
                due("name " + name + " lane " + lane, w.field(0, name, lane, 0), BAD);
            }
        }
        w.type();
        due("in another type", w.field(1, 3, WHOLE, 0), 0);
        w.drop(0, 3);
        due("when it is gone", w.field(0, 3, INTS, 0), 3);
    }

    @Says(in = "Terms", value = "and a LANE: 0 WHOLE (64 bits), 1 WORD .. 5 LONGS")
    static void lanesAreSix() {
        World w = World.of();
        for (int lane : outside(0, 5)) {
            due("lane " + lane, w.field(0, 0, lane, 0), BAD);
        }
        for (int lane = 0; lane < 5; lane++) {
            due("lane " + lane, w.field(0, lane, lane, 0), lane);
        }
        w.type();
        due("lane 5", w.field(1, 0, 5, 0), 0);
    }

    @Says(in = "Terms", value = "0 WHOLE (64 bits)")
    static void wholesHaveAllBits() {
        World w = World.of(WHOLE).things(2, 0);
        for (int bit = 0; bit < 64; bit++) {
            w.put(0, 0, 1L << bit);
            due("bit " + bit, w.at(0, 0), 1L << bit);
            due("like 7", w.like(0, 1), 0);
        }
        for (long v : new long[] {LONG_MIN, LONG_MAX, -1, 0}) {
            w.put(0, 0, v);
            due("saved", w.save(0, 0), 1);
            due("put back", w.at(w.restore(0, 0), 0), v);
        }
        due("as a default", w.field(0, 1, WHOLE, LONG_MIN), 1);
        due("of all", w.at(1, 1), LONG_MIN);
    }

    @Says(in = "Terms", value = "1 WORD (0 .. 15, or NONE)")
    static void wordsAreSixteen() {
        World w = World.of(WORD).things(1, 0);
        for (long v = -1; v < 16; v++) {
            due("word " + v, w.put(0, 0, v), 1);
            due("word " + v, w.at(0, 0), v);
        }
        for (long v : new long[] {-2, 16, LONG_MIN, LONG_MAX, TWO_32, TWO_32 + 3, TWO_32 - 1, 256, -TWO_32}) {
            due("word " + v, w.put(0, 0, v), WORD_OUT);
        }
        due("the last one stays", w.at(0, 0), 15);
    }

    @Says(in = "Terms", value = "2 THING (one, or NONE)")
    static void thingFieldsLeadToOneOrNone() {
        World w = World.of(THING).things(30, 0);
        due("to the last", w.refer(0, 0, 29), 1);
        due("it is there", w.at(0, 0), 29);
        due("to the first", w.refer(0, 0, 0), 1);
        due("it is there", w.at(0, 0), 0);
        due("to none", w.refer(0, 0, -1), 1);
        due("none is there", w.at(0, 0), NONE);
    }

    @Says(in = "Terms", value = "(a ROW of 0 to 12 such items, or none)")
    static void rowsHaveUpToTwelveItems() {
        for (int lane = BYTES; lane <= LONGS; lane++) {
            World w = World.of(lane).things(2, 0);
            due("none at first", w.at(0, 0), NONE);
            for (int n = 0; n <= 12; n++) {
                due("row of " + n, w.row(0, 0, n), 1);
                due("its items", w.at(0, 0), n);
                due("item " + n, w.itemAt(0, 0, n), OUT_OF_BOUNDS);
                due("the last item", w.itemAt(0, 0, n - 1), n == 0 ? OUT_OF_BOUNDS : 0);
            }
            due("row of 13", w.row(0, 0, 13), BAD);
            due("it stays", w.at(0, 0), 12);
        }
    }

    @Says(in = "Terms", value = "or none")
    static void anEmptyRowIsNotNone() {
        World w = World.of(BYTES).things(2, 0);
        w.row(0, 0, 0);
        due("empty", w.at(0, 0), 0);
        due("none", w.at(1, 0), NONE);
        due("they are not like", w.like(0, 1), 0);
        w.save(0, 0);
        due("the empty one is a row", w.saved(0, 1), 1);
        due("and differs from none", w.differs(0, 1), 10);
        due("and comes back empty", w.at(w.restore(0, 0), 0), 0);
        w.save(0, 1);
        due("none is no row", w.saved(0, 1), 0);
        due("and comes back as none", w.at(w.restore(0, 0), 0), NONE);
    }

    @Says(in = "Terms", value = "WORDS 0 .. 15 are in USE, or not (all are at first)")
    static void allWordsAreInUseAtFirst() {
        World w = World.of(WORD).things(1, 0);
        for (int n = 0; n < 16; n++) {
            due("word " + n, w.put(0, 0, n), 1);
            due("is in use", w.word(n, false), 1);
            due("is not", w.word(n, false), 0);
            due("cannot be put", w.put(0, 0, n), WORD_OUT);
        }
        due("none can, still", w.put(0, 0, -1), 1);
    }

    // ---- things and rows ----

    @Says(in = "Terms", value = "THINGS 0, 1, .. (30 at most) are of a TYPE")
    static void thingsAreThirtyAtMost() {
        World w = World.of().typed();
        for (int x = 0; x < 30; x++) {
            due("not yet", w.told(x, 0), NONE);
            due("thing", w.thing(x % 2), x);
            due("its type", w.told(x, 0), x % 2);
        }
        due("31st", w.thing(0), FULL);
        due("things", w.count(1), 30);
        due("thing 30", w.told(30, 0), NONE);
    }

    @Says(in = "Terms", value = "at first the FIELD's DEFAULT: of a WHOLE a number; of others NONE, none")
    static void valuesAtFirst() {
        for (long v : new long[] {0, -1, 5, LONG_MIN, LONG_MAX}) {
            World w = new World();
            w.type();
            w.thing(0);
            for (int lane = 0; lane < 5; lane++) {
                w.field(0, lane, lane, v);
            }
            w.thing(0);
            for (int x = 0; x < 2; x++) {
                due("whole", w.at(x, WHOLE), v);
                for (int k = WORD; k < 5; k++) {
                    due("lane " + k + " with " + v, w.at(x, k), NONE);
                }
            }
            w.drop(0, 0);
            w.field(0, 5, LONGS, v);
            due("longs with " + v, w.at(0, 4), NONE);
        }
    }

    @Says(in = "Terms", value = "A ROW is one thing by itself: several FIELDS may have the same ROW")
    static void fieldsHaveTheSameRow() {
        World w = World.of(INTS, INTS).typed(INTS).things(2, 0).things(1, 1);
        w.row(0, 0, 1);
        w.share(0, 1, 0, 0);
        w.share(1, 1, 0, 1);
        w.share(2, 0, 1, 1);
        w.item(2, 0, 0, 44);
        due("field of the same thing", w.itemAt(0, 0, 0), 44);
        due("another of it", w.itemAt(0, 1, 0), 44);
        due("field of another thing", w.itemAt(1, 1, 0), 44);
        due("a field without it", w.at(1, 0), NONE);
        w.row(0, 0, 2);
        w.row(0, 1, -1);
        due("others keep it", w.itemAt(1, 1, 0), 44);
        w.drop(0, 1);
        due("also when that field goes", w.itemAt(2, 0, 0), 44);
    }

    @Says(in = "Terms", value = "A ROW is one thing by itself")
    static void newRowsAreNotTheSame() {
        World w = World.of(BYTES, BYTES).things(1, 0);
        w.row(0, 0, 1);
        w.row(0, 1, 1);
        w.item(0, 0, 0, 3);
        due("the other", w.itemAt(0, 1, 0), 0);
        w.share(0, 1, 0, 0);
        w.row(0, 1, 1);
        w.item(0, 1, 0, 4);
        due("the first, after a new one", w.itemAt(0, 0, 0), 3);
    }

    @Says(in = "Terms", value = "FAILURES: 1 NULL, 2 INDEX, 3 SIZE, 4 CAST, 5 DIVIDE, 6 OWN; behind them 7 WORD, 8 GONE, 9 LANE, 10 SHUT")
    static void failuresHaveTheirNumbers() {
        World w = World.of(WHOLE, WORD, BYTES).things(1, 0);
        due("NULL", w.item(0, 2, 0, 0), -10 - 1);
        w.row(0, 2, 0);
        due("INDEX", w.item(0, 2, 0, 0), -10 - 2);
        due("SIZE", w.row(0, 2, -2), -10 - 3);
        due("CAST", w.put(0, 2, 0), -10 - 4);
        w.put(0, 0, 0);
        w.check(0, DIVIDES, 0, 0, 0);
        due("DIVIDE", w.judge(0), -10 - 5);
        w.unchecked(0);
        w.check(0, LEAST, 0, 0, 1);
        due("OWN", w.judge(0), -10 - 6);
        due("WORD", w.put(0, 1, 16), -10 - 7);
        w.save(0, 0);
        w.drop(0, 2);
        due("GONE", w.restore(0, 0), -10 - 8);
        w.field(0, 12, THING, 0);
        due("LANE", w.restore(0, 0), -10 - 9);
        w.shut(0, 0, true);
        due("SHUT", w.save(0, 0), -10 - 10);
    }

    // ---- checks ----

    private static World judged(World w, int kind, int a, int b, long v) {
        w.unchecked(0);
        w.check(0, kind, a, b, v);
        return w;
    }

    private static void judgedSo(World w, String what, int kind, int a, int b, long v, int want) {
        due(what, judged(w, kind, a, b, v).judge(0), want);
    }

    @Says(in = "Terms", value = "A CHECK of a TYPE (4 at most, done in order)")
    static void checksAreFourAndInOrder() {
        World w = World.of(WHOLE, THING).typed(WHOLE).things(1, 0).things(1, 1);
        due("first", w.check(0, LEAST, 0, 0, 7), 1);
        due("second", w.check(0, LEAST, 0, 0, 8), 2);
        due("third", w.check(0, MEETS, 1, 0, 0), 3);
        due("fourth", w.check(0, DIVIDES, 1, 0, 0), 4);
        due("fifth", w.check(0, LEAST, 0, 0, 99), FULL);
        due("another type's first", w.check(1, LEAST, 0, 0, 7), 1);
        due("second fails", w.judge(0), OWN);
        w.put(0, 0, 8);
        due("third fails", w.judge(0), NULL);
        w.refer(0, 1, 0);
        due("fourth fails", w.judge(0), CAST);
        w.put(0, 0, 6);
        due("first fails", w.judge(0), OWN);
        due("another type's own", w.judge(1), 1);
    }

    @Says(in = "Terms", value = "0 DIVIDES: the WHOLE in a by that in b (DIVIDE)")
    static void divides() {
        World w = World.of(WHOLE, WHOLE).things(1, 0);
        long[][] pairs = {{5, 1}, {0, 1}, {LONG_MIN, -1}, {LONG_MIN, LONG_MAX}, {3, LONG_MIN}, {3, TWO_32}};
        for (long[] pair : pairs) {
            w.put(0, 0, pair[0]);
            w.put(0, 1, pair[1]);
            judgedSo(w, pair[0] + " by " + pair[1], DIVIDES, 0, 1, 0, 1);
        }
        w.put(0, 1, 0);
        judgedSo(w, "by 0", DIVIDES, 0, 1, 1, DIVIDE);
        judgedSo(w, "0 by a number", DIVIDES, 1, 0, 0, 1);
        judgedSo(w, "0 by itself", DIVIDES, 1, 1, 0, DIVIDE);
        judgedSo(w, "a number by itself", DIVIDES, 0, 0, 0, 1);
    }

    @Says(in = "Terms", value = "1 MEETS: the THING in a has a TYPE v (NULL; CAST: another TYPE)")
    static void meets() {
        World w = World.of(THING).typed().things(1, 0).things(1, 1);
        judgedSo(w, "none", MEETS, 0, 0, 0, NULL);
        judgedSo(w, "none, and no such type", MEETS, 0, 0, -1, NULL);
        w.refer(0, 0, 1);
        judgedSo(w, "its type", MEETS, 0, 4, 1, 1);
        for (long v : new long[] {0, 2, -1, TWO_32 + 1, 257, LONG_MIN + 1, LONG_MAX}) {
            judgedSo(w, "type " + v, MEETS, 0, 0, v, CAST);
        }
        w.refer(0, 0, 0);
        judgedSo(w, "itself", MEETS, 0, 0, 0, 1);
    }

    @Says(in = "Terms", value = "2 HAS: item b's WHOLE of the ROW in a (NULL, INDEX, also where that is no int)")
    static void hasFails() {
        World w = World.of(BYTES, WHOLE).things(1, 0);
        for (long i : new long[] {0, -1, 99, TWO_32}) {
            w.put(0, 1, i);
            judgedSo(w, "no row, item " + i, HAS, 0, 1, LONG_MIN, NULL);
        }
        w.row(0, 0, 0);
        for (long i : new long[] {0, -1, 1}) {
            w.put(0, 1, i);
            judgedSo(w, "empty row, item " + i, HAS, 0, 1, LONG_MIN, INDEX);
        }
        w.row(0, 0, 12);
        for (long i : new long[] {-1, 12, INT_MIN, INT_MAX, TWO_32, TWO_32 + 3, -TWO_32, LONG_MIN, LONG_MAX}) {
            w.put(0, 1, i);
            judgedSo(w, "item " + i, HAS, 0, 1, LONG_MIN, INDEX);
        }
        for (long i = 0; i < 12; i++) {
            w.put(0, 1, i);
            judgedSo(w, "item " + i, HAS, 0, 1, -1, 1);
        }
    }

    @Says(in = "Terms", value = "is above v, else OWN")
    static void hasIsAbove() {
        for (int lane = BYTES; lane <= LONGS; lane++) {
            World w = World.of(lane, WHOLE).things(1, 0);
            w.row(0, 0, 2);
            w.put(0, 1, 1);
            w.item(0, 0, 1, 5);
            judgedSo(w, "5 above 4", HAS, 0, 1, 4, 1);
            judgedSo(w, "5 above 5", HAS, 0, 1, 5, OWN);
            judgedSo(w, "5 above 6", HAS, 0, 1, 6, OWN);
            judgedSo(w, "above the least", HAS, 0, 1, LONG_MIN, 1);
            judgedSo(w, "above the most", HAS, 0, 1, LONG_MAX, OWN);
            judgedSo(w, "above 2 to the 32nd", HAS, 0, 1, TWO_32, OWN);
            w.item(0, 0, 1, -1);
            judgedSo(w, "-1 above 0", HAS, 0, 1, 0, OWN);
            judgedSo(w, "-1 above -2", HAS, 0, 1, -2, 1);
        }
        World w = World.of(LONGS, WHOLE).things(1, 0);
        w.row(0, 0, 8);
        w.item(0, 0, 7, LONG_MIN);
        w.put(0, 1, 0);
        judgedSo(w, "0 above the least", HAS, 0, 1, LONG_MIN, 1);
        w.put(0, 1, 7);
        judgedSo(w, "the least above the least", HAS, 0, 1, LONG_MIN, OWN);
    }

    @Says(in = "Terms", value = "3 HOLDS: a new ROW of as many bytes as the WHOLE in a (OWN: above 12; SIZE)")
    static void holds() {
        World w = World.of(WHOLE).things(1, 0);
        long[] lengths = {0, 1, 12, 13, -1, INT_MAX, INT_MIN, TWO_32, TWO_32 + 1, -TWO_32, LONG_MAX, LONG_MIN};
        int[] answers = {1, 1, 1, OWN, SIZE, OWN, SIZE, OWN, OWN, SIZE, OWN, SIZE};
        for (int i = 0; i < lengths.length; i++) {
            w.put(0, 0, lengths[i]);
            judgedSo(w, "as many as " + lengths[i], HOLDS, 0, 4, 99, answers[i]);
        }
        due("it is only asked", w.at(0, 0), LONG_MIN);
    }

    @Says(in = "Terms", value = "4 LEAST: the WHOLE in a is not below v, else OWN")
    static void least() {
        World w = World.of(WHOLE).things(1, 0);
        long[][] cases = {{5, 5, 1}, {5, 4, 1}, {5, 6, OWN}, {-1, 0, OWN}, {0, -1, 1}, {LONG_MIN, LONG_MIN, 1},
            {LONG_MIN, LONG_MIN + 1, OWN}, {LONG_MAX, LONG_MAX, 1}, {LONG_MAX - 1, LONG_MAX, OWN},
            {LONG_MIN, LONG_MAX, OWN}, {LONG_MAX, LONG_MIN, 1}, {0, TWO_32, OWN}};
        for (long[] c : cases) {
            w.put(0, 0, c[0]);
            judgedSo(w, c[0] + " is not below " + c[1], LEAST, 0, 4, c[1], (int) c[2]);
        }
    }

    @Says(in = "Terms", value = "5 LEADS: the THING in a, and the one in its FIELD of the same NAME and LANE THING (CAST: it has none such), are there (NULL: the first, or the second)")
    static void leads() {
        World w = World.of(THING, THING).typed().things(2, 0).things(1, 1);
        judgedSo(w, "the first is none", LEADS, 1, 0, 0, NULL);
        w.refer(0, 1, 2);
        judgedSo(w, "it has no fields", LEADS, 1, 0, 0, CAST);
        w.field(1, 10, THING, 0);
        w.refer(2, 0, 0);
        judgedSo(w, "it has none of that name", LEADS, 1, 0, 0, CAST);
        w.field(1, 11, WHOLE, 5);
        judgedSo(w, "that is of another lane", LEADS, 1, 0, 0, CAST);
        w.drop(1, 1);
        w.field(1, 9, WHOLE, 0);
        w.field(1, 11, THING, 0);
        judgedSo(w, "the second is none", LEADS, 1, 0, 0, NULL);
        w.refer(2, 2, 1);
        judgedSo(w, "both are there", LEADS, 1, 4, 77, 1);
        w.refer(0, 1, 0);
        judgedSo(w, "itself", LEADS, 1, 0, 0, 1);
        w.refer(0, 1, 1);
        judgedSo(w, "one that leads nowhere", LEADS, 1, 0, 0, NULL);
    }

    @Says(in = "Terms", value = "Of a FIELD of another LANE than that: CAST, ahead of all (a, then b)")
    static void checksOfAnotherLane() {
        World w = World.of(WHOLE, WORD, THING, BYTES).things(1, 0);
        w.put(0, 0, 0);
        for (int k = 0; k < 5; k++) {
            due("divides a " + k, judged(w, DIVIDES, k, 0, 0).judge(0), k == WHOLE ? DIVIDE : CAST);
            due("divides b " + k, judged(w, DIVIDES, 0, k, 0).judge(0), k == WHOLE ? DIVIDE : CAST);
            due("meets " + k, judged(w, MEETS, k, 0, 0).judge(0), k == THING ? NULL : CAST);
            due("has a " + k, judged(w, HAS, k, 0, 0).judge(0), k == BYTES ? NULL : CAST);
            due("has b " + k, judged(w, HAS, 3, k, 0).judge(0), k == WHOLE ? NULL : CAST);
            due("holds " + k, judged(w, HOLDS, k, 0, 0).judge(0), k == WHOLE ? 1 : CAST);
            due("least " + k, judged(w, LEAST, k, 0, 1).judge(0), k == WHOLE ? OWN : CAST);
            due("leads " + k, judged(w, LEADS, k, 0, 0).judge(0), k == THING ? NULL : CAST);
        }
        for (int lane = INTS; lane <= LONGS; lane++) {
            World rows = World.of(lane, WHOLE).things(1, 0);
            due("has a row of lane " + lane, judged(rows, HAS, 0, 1, 0).judge(0), NULL);
            for (int kind : new int[] {DIVIDES, MEETS, HOLDS, LEAST, LEADS}) {
                due("kind " + kind + " of lane " + lane, judged(rows, kind, 0, 1, 0).judge(0), CAST);
            }
        }
    }

    @Says(in = "Terms", value = "looks at a THING's FIELDS a, b")
    static void checksLookAtNoFieldThatTheyDoNotName() {
        World w = World.of(WHOLE, THING).things(1, 0);
        w.refer(0, 1, 0);
        judgedSo(w, "meets, b is no field", MEETS, 1, 4, 0, 1);
        judgedSo(w, "holds, b is no field", HOLDS, 0, 4, 0, 1);
        judgedSo(w, "least, b is no field", LEAST, 0, 4, 0, 1);
        judgedSo(w, "leads, b is no field", LEADS, 1, 4, 0, 1);
    }

    @Says(in = "Terms", value = "and a number v")
    static void numbersAtTheEndsOfLong() {
        World w = World.of(WHOLE).things(1, 0);
        w.put(0, 0, LONG_MAX);
        judgedSo(w, "the most", LEAST, 0, 0, LONG_MAX, 1);
        w.put(0, 0, INT_MAX);
        judgedSo(w, "the most", LEAST, 0, 0, LONG_MAX, OWN);
        judgedSo(w, "the least", LEAST, 0, 0, LONG_MIN, 1);
    }
}
