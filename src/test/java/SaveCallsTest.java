/** Promises 20 to 25: save, saved, restore, fault, like, differs. */
final class SaveCallsTest extends Sentences {
    public static void main(String[] args) {
        run(SaveCallsTest.class);
    }

    /** THING 0 leads to 1 and both have one ROW; SAVE 0 has them, SAVE 1 THING 2, SAVE 2 nothing. */
    private static World small() {
        World w = World.of(WHOLE, WORD, THING, BYTES).typed(LONGS).things(2, 0).things(1, 1);
        w.put(0, 0, 9);
        w.put(1, 1, 4);
        w.refer(0, 2, 1);
        w.row(0, 3, 2);
        w.item(0, 3, 1, -3);
        w.share(1, 3, 0, 3);
        w.save(0, 0);
        w.save(1, 2);
        w.mark();
        w.put(0, 0, 10);
        return w;
    }

    private static World shutIn(int k) {
        World w = small();
        w.shut(0, k, true);
        return w;
    }

    /** So many THINGS that SAVE 0 can just be put back, or just not; SAVE 1 can. */
    private static World roomFor(int records) {
        World w = World.of(THING).things(2, 0);
        w.refer(0, 0, 1);
        w.save(0, 0);
        w.save(1, 1);
        return w.things(28 - records, 0);
    }

    // ---- save ----

    @Says(in = "Promise 20", value = "SAVING into a SAVE, in place of what it had: how many RECORDS.")
    static void saveTellsHowMany() {
        World w = small();
        due("two", w.save(3, 0), 2);
        due("rows", w.saved(3, 1), 1);
        due("one in place of it", w.save(3, 2), 1);
        due("records", w.saved(3, 0), 1);
        due("no rows", w.saved(3, 1), 0);
        due("it is the new one", w.differs(3, 2), NONE);
        due("two in place of it", w.save(3, 0), 2);
        due("rows again", w.saved(3, 1), 1);
        due("the others stay", w.differs(1, 2), NONE);
        due("save 0 has what was", w.differs(0, 0), 10);
        due("a save is no noted change", w.undo(), 1);
        due("save 3 stays", w.differs(3, 0), 10);
        due("save 0 has what is again", w.differs(0, 0), NONE);
    }

    @Says(in = "Promise 20", value = "NONE;")
    static void saveOfNone() {
        for (int s : outside(0, 3)) {
            refused("save " + s, SaveCallsTest::small, w -> w.save(s, 0), NONE);
            refused("and shut", () -> shutIn(0), w -> w.save(s, 0), NONE);
        }
        for (int x : outside(0, 2)) {
            refused("thing " + x, SaveCallsTest::small, w -> w.save(0, x), NONE);
        }
    }

    @Says(in = "Promise 20", value = "FAILED by SHUT (the SAVE stays)")
    static void saveFailsByShut() {
        for (int k = 0; k < 4; k++) {
            int field = k;
            failed("field " + k, () -> shutIn(field), w -> w.save(0, 0), SHUT, 0, 10 + k, NONE);
            failed("into another save", () -> shutIn(field), w -> w.save(1, 1), SHUT, 0, 10 + k, NONE);
            failed("into one that has nothing", () -> shutIn(field), w -> w.save(2, 1), SHUT, 0, 10 + k, NONE);
        }
        World w = shutIn(3);
        due("a thing of another type", w.save(0, 2), 1);
    }

    // ---- saved ----

    @Says(in = "Promise 21", value = "Of a SAVE: what = 0 RECORDS, 1 ROWS (0 without).")
    static void savedTells() {
        World w = small();
        due("records", w.saved(0, 0), 2);
        due("rows", w.saved(0, 1), 1);
        due("records", w.saved(1, 0), 1);
        due("no rows", w.saved(1, 1), 0);
        for (int s = 2; s < 4; s++) {
            due("no records", w.saved(s, 0), 0);
            due("no rows", w.saved(s, 1), 0);
        }
    }

    @Says(in = "Promise 21", value = "NONE; BAD.")
    static void savedIsRefused() {
        for (int s : outside(0, 3)) {
            refused("save " + s, SaveCallsTest::small, w -> w.saved(s, 0), NONE);
            refused("and what", SaveCallsTest::small, w -> w.saved(s, 2), NONE);
        }
        for (int what : outside(0, 1)) {
            refused("what " + what, SaveCallsTest::small, w -> w.saved(0, what), BAD);
            refused("what " + what + " of nothing", SaveCallsTest::small, w -> w.saved(2, what), BAD);
        }
    }

    // ---- restore ----

    @Says(in = "Promise 22", value = "PUTTING BACK: the number of RECORD 0's THING.")
    static void restoreTellsTheFirst() {
        World w = small();
        for (int rule = 0; rule < 4; rule++) {
            int x = 3 + 2 * rule;
            due("by rule " + rule, w.restore(0, rule), x);
            due("things", w.count(1), x + 2);
            due("alike", w.differs(0, x), NONE);
            due("noted changes", w.count(3), 1);
        }
        due("undone", w.undo(), 1);
        due("what was put back stays", w.count(1), 11);
        due("like it now", w.like(0, 3), 1);
    }

    @Says(in = "Promise 22", value = "rule: bit 0: GONE FIELDS are left out, bit 1: WORDS out of USE are NONE.")
    static void restoreByRules() {
        int[] answers = {WORD_OUT, WORD_OUT, GONE, 1};
        int[] names = {10, 10, 11, 11};
        World w = World.of(WORD, WHOLE).things(1, 0);
        w.put(0, 0, 6);
        w.save(0, 0);
        w.word(6, false);
        w.drop(0, 1);
        for (int rule = 0; rule < 4; rule++) {
            due("rule " + rule, w.restore(0, rule), answers[rule]);
            due("name", w.fault(1), names[rule]);
        }
        due("none", w.at(1, 0), NONE);
    }

    @Says(in = "Promise 22", value = "NONE: SAVE, or it has nothing")
    static void restoreOfNone() {
        for (int s : new int[] {-1, 2, 3, 4, INT_MIN, INT_MAX, 256}) {
            refused("save " + s, SaveCallsTest::small, w -> w.restore(s, 0), NONE);
            refused("and a rule", SaveCallsTest::small, w -> w.restore(s, 4), NONE);
            refused("and no room", () -> roomFor(0), w -> w.restore(s, 0), NONE);
        }
    }

    @Says(in = "Promise 22", value = "BAD: rule")
    static void restoreOfBadRule() {
        for (int rule : outside(0, 3)) {
            refused("rule " + rule, SaveCallsTest::small, w -> w.restore(0, rule), BAD);
            refused("rule " + rule + " and no room", () -> roomFor(0), w -> w.restore(0, rule), BAD);
        }
    }

    private static World goneAndRoomFor(int records) {
        World w = roomFor(records);
        w.drop(0, 0);
        return w;
    }

    @Says(in = "Promise 22", value = "FULL: not so many THINGS")
    static void restoreIsFull() {
        due("room for two", roomFor(2).restore(0, 0), 28);
        due("room for three", roomFor(3).restore(0, 0), 27);
        due("room for one, and one", roomFor(1).restore(1, 0), 29);
        refused("room for one", () -> roomFor(1), w -> w.restore(0, 0), FULL);
        refused("no room", () -> roomFor(0), w -> w.restore(0, 0), FULL);
        refused("no room for one", () -> roomFor(0), w -> w.restore(1, 0), FULL);
        refused("and gone", () -> goneAndRoomFor(1), w -> w.restore(0, 0), FULL);
    }

    @Says(in = "Promise 22", value = "FAILED.")
    static void restoreFails() {
        failed("gone", () -> goneAndRoomFor(2), w -> w.restore(0, 0), GONE, 0, 10, NONE);
        due("left out", goneAndRoomFor(2).restore(0, 1), 28);
    }

    // ---- fault ----

    @Says(in = "Promise 23", value = "-9 before one.")
    static void noFaultBeforeOne() {
        World w = small();
        w.save(9, 0);
        w.restore(9, 0);
        w.restore(0, 9);
        w.put(0, 2, 1);
        w.check(0, LEAST, 0, 0, 99);
        w.judge(0);
        w.shut(0, 0, true);
        w.differs(0, 0);
        for (int what = 0; what < 3; what++) {
            due("what " + what, w.fault(what), NO_FAULT);
        }
        due("and a bad what", w.fault(3), NO_FAULT);
        w.save(0, 0);
        due("behind one", w.fault(0), 0);
    }

    @Says(in = "Promise 23", value = "Of the latest save(), restore() that FAILED: what = 0 the RECORD")
    static void faultTellsTheRecord() {
        World w = World.of(THING).typed(WHOLE).things(29, 0).things(1, 1);
        for (int x = 0; x < 29; x++) {
            w.refer(x, 0, x + 1);
        }
        w.save(0, 0);
        w.shut(1, 0, true);
        due("save", w.save(1, 0), SHUT);
        due("the last record", w.fault(0), 29);
        w.forget();
        w.check(1, LEAST, 0, 0, 8);
        due("restore", w.restore(0, 0), OWN);
        due("the last record", w.fault(0), 29);
        w.drop(1, 0);
        due("restore", w.restore(0, 0), GONE);
        due("the last record", w.fault(0), 29);
        due("its name", w.fault(1), 10);
    }

    @Says(in = "Promise 23", value = "1 the NAME of the FIELD (of a CHECK NONE)")
    static void faultTellsTheName() {
        for (int name : new int[] {0, 19}) {
            World w = new World();
            w.type();
            w.field(0, name, WHOLE, 0);
            w.thing(0);
            w.save(0, 0);
            w.check(0, DIVIDES, 0, 0, 0);
            due("restore", w.restore(0, 0), DIVIDE);
            due("of a check", w.fault(1), NONE);
            w.shut(0, 0, true);
            due("save", w.save(0, 0), SHUT);
            due("name", w.fault(1), name);
        }
    }

    @Says(in = "Promise 23", value = "2 the number of the CHECK in its TYPE (else NONE)")
    static void faultTellsTheCheck() {
        for (int c = 0; c < 4; c++) {
            World w = World.of(WHOLE).things(1, 0);
            w.save(0, 0);
            for (int i = 0; i < 4; i++) {
                w.check(0, LEAST, 0, 0, i < c ? 7 : 8);
            }
            due("restore", w.restore(0, 0), OWN);
            due("check", w.fault(2), c);
            w.drop(0, 0);
            due("restore", w.restore(0, 0), GONE);
            due("no check", w.fault(2), NONE);
        }
    }

    @Says(in = "Promise 23", value = "Of the latest")
    static void faultStaysUntilTheNext() {
        World w = World.of(WHOLE, WHOLE).things(1, 0);
        w.save(0, 0);
        w.shut(0, 1, true);
        due("save", w.save(1, 0), SHUT);
        w.shut(0, 1, false);
        due("a save that is fine", w.save(1, 0), 1);
        due("a restore that is fine", w.restore(1, 0), 1);
        due("refused ones", w.save(4, 0) + w.restore(4, 0) + w.restore(0, 4), NONE + NONE + BAD);
        due("the first stays", w.fault(1), 11);
        w.drop(0, 0);
        due("restore", w.restore(0, 0), GONE);
        due("the latest", w.fault(1), 10);
        due("forget", w.forget(), 2);
        due("it stays", w.fault(1), 10);
    }

    private static World failedOnce() {
        World w = shutIn(1);
        w.save(0, 0);
        return w;
    }

    @Says(in = "Promise 23", value = "BAD.")
    static void faultOfBad() {
        for (int what : outside(0, 2)) {
            refused("what " + what, SaveCallsTest::failedOnce, w -> w.fault(what), BAD);
        }
    }

    // ---- like ----

    @Says(in = "Promise 24", value = "NONE.")
    static void likeOfNone() {
        for (int n : outside(0, 2)) {
            refused("x " + n, SaveCallsTest::small, w -> w.like(n, 0), NONE);
            refused("y " + n, SaveCallsTest::small, w -> w.like(0, n), NONE);
            refused("both " + n, SaveCallsTest::small, w -> w.like(n, n), NONE);
        }
    }

    @Says(in = "Promise 24", value = "Whether two THINGS are LIKE")
    static void likeChangesNothing() {
        refused("like", SaveCallsTest::small, w -> w.like(0, 0), 1);
        refused("not like", SaveCallsTest::small, w -> w.like(0, 1), 0);
        refused("not like", SaveCallsTest::small, w -> w.like(1, 2), 0);
        refused("shut", () -> shutIn(0), w -> w.like(1, 1), 1);
    }

    // ---- differs ----

    @Says(in = "Promise 25", value = "as if it were SAVED now (SHUT or not)")
    static void differsMindsNoShut() {
        for (int k = 0; k < 4; k++) {
            int field = k;
            refused("field " + k, () -> shutIn(field), w -> w.differs(0, 0), 10);
        }
    }

    @Says(in = "Promise 25", value = "100 times the first RECORD that is another one, and the NAME of its first FIELD that is")
    static void differsTellsTheFirst() {
        World w = new World();
        w.type();
        int[] names = {0, 19, 5, 7};
        int[] lanes = {WHOLE, WORD, THING, BYTES};
        for (int k = 0; k < 4; k++) {
            w.field(0, names[k], lanes[k], 0);
        }
        w.things(30, 0);
        for (int x = 0; x < 29; x++) {
            w.refer(x, 2, x + 1);
        }
        w.save(0, 0);
        due("alike", w.differs(0, 0), NONE);
        w.row(29, 3, 0);
        due("the last field", w.differs(0, 0), 2907);
        w.refer(29, 2, 0);
        due("the one ahead", w.differs(0, 0), 2905);
        w.put(29, 1, 0);
        due("name 19", w.differs(0, 0), 2919);
        w.put(29, 0, LONG_MIN);
        due("name 0", w.differs(0, 0), 2900);
        w.row(1, 3, 1);
        due("an earlier record", w.differs(0, 0), 107);
        w.put(0, 1, 15);
        due("record 0", w.differs(0, 0), 19);
        w.put(0, 0, 1);
        due("its first field", w.differs(0, 0), 0);
    }

    @Says(in = "Promise 25", value = "99: its TYPE, or its FIELDS' NAMES, LANES are")
    static void differsByTypeNamesLanes() {
        World w = World.of(THING, BYTES).typed(THING, BYTES).things(2, 0).things(2, 1);
        w.refer(0, 0, 1);
        w.save(0, 0);
        due("the type", w.differs(0, 2), 99);
        w.refer(0, 0, 2);
        due("record 1's type", w.differs(0, 0), 199);
        w.refer(0, 0, 1);
        due("alike", w.differs(0, 0), NONE);
        w.field(0, 3, WHOLE, 0);
        due("a field more", w.differs(0, 0), 99);
        w.drop(0, 2);
        due("as it was", w.differs(0, 0), NONE);
        w.drop(0, 1);
        due("a field less", w.differs(0, 0), 99);
        w.field(0, 12, BYTES, 0);
        due("another name", w.differs(0, 0), 99);
        w.drop(0, 1);
        w.field(0, 11, INTS, 0);
        due("another lane", w.differs(0, 0), 99);
        w.drop(0, 1);
        w.field(0, 11, BYTES, 0);
        due("as it was", w.differs(0, 0), NONE);
        w.drop(0, 0);
        w.field(0, 10, THING, 0);
        due("another order", w.differs(0, 0), 99);
    }

    @Says(in = "Promise 25", value = "its FIELDS' NAMES, LANES are")
    static void differsByNameOrLaneOfOneField() {
        for (int k = 0; k < 3; k++) {
            World w = World.of(BYTES, BYTES, BYTES).things(1, 0);
            w.save(0, 0);
            for (int j = 2; j >= k; j--) {
                w.drop(0, j);
            }
            w.field(0, 10 + k, LONGS, 0);
            for (int j = k + 1; j < 3; j++) {
                w.field(0, 10 + j, BYTES, 0);
            }
            due("lane of field " + k, w.differs(0, 0), 99);
            for (int j = 2; j >= k; j--) {
                w.drop(0, j);
            }
            w.field(0, 5, BYTES, 0);
            for (int j = k + 1; j < 3; j++) {
                w.field(0, 10 + j, BYTES, 0);
            }
            due("name of field " + k, w.differs(0, 0), 99);
        }
    }

    @Says(in = "Promise 25", value = "99: .. LANES are")
    static void differsByShapeAheadOfValues() {
        World w = World.of(WHOLE, THING).typed(WHOLE).things(1, 0).things(1, 1);
        w.refer(0, 1, 1);
        w.save(0, 0);
        w.put(1, 0, 1);
        w.field(1, 3, WHOLE, 0);
        due("record 1's fields ahead of its values", w.differs(0, 0), 199);
        w.put(0, 0, 1);
        due("record 0's values ahead of record 1's fields", w.differs(0, 0), 10);
        w.field(0, 3, WHOLE, 0);
        due("record 0's fields ahead of its values", w.differs(0, 0), 99);
    }

    @Says(in = "Promise 25", value = "or one of the two has no such RECORD")
    static void differsByTheFieldThatLeadsThere() {
        World w = World.of(THING).things(3, 0);
        w.refer(0, 0, 1);
        w.save(0, 0);
        w.save(1, 1);
        due("one more in the save", w.differs(0, 1), 10);
        due("one more now", w.differs(1, 0), 10);
        w.refer(1, 0, 2);
        due("one more now", w.differs(0, 0), 110);
    }

    @Says(in = "Promise 25", value = "NONE: they are alike, ROWS' numbers and items, too.")
    static void differsByRows() {
        World w = World.of(BYTES, BYTES, BYTES).things(2, 0);
        w.row(0, 0, 12);
        w.row(0, 1, 12);
        w.share(0, 2, 0, 0);
        w.save(0, 0);
        due("alike", w.differs(0, 0), NONE);
        for (int i : new int[] {0, 11}) {
            w.item(0, 1, i, 1);
            due("item " + i, w.differs(0, 0), 11);
            w.item(0, 1, i, 0);
        }
        w.item(0, 2, 11, 1);
        due("an item of the shared row", w.differs(0, 0), 10);
        w.item(0, 2, 11, 0);
        w.share(0, 2, 0, 1);
        due("another row's number", w.differs(0, 0), 12);
        w.row(0, 2, 12);
        due("a new row's number", w.differs(0, 0), 12);
        w.share(0, 2, 0, 0);
        w.share(0, 1, 0, 0);
        due("one number for two", w.differs(0, 0), 11);
        w.row(0, 1, 11);
        due("fewer items", w.differs(0, 0), 11);
        w.row(0, 1, -1);
        due("no row", w.differs(0, 0), 11);
        w.row(0, 1, 12);
        due("alike again", w.differs(0, 0), NONE);
    }

    @Says(in = "Promise 25", value = "A THING beside a SAVE")
    static void differsOfAnotherThingThatIsAlike() {
        World w = small();
        w.undo();
        int x = w.restore(0, 0);
        due("alike", w.differs(0, x), NONE);
        due("the next is not", w.differs(0, x + 1), 10);
        w.forget();
        due("it is gone", w.differs(0, x), BAD);
    }

    @Says(in = "Promise 25", value = "BAD: SAVE, or it has nothing; THING.")
    static void differsOfBad() {
        for (int s : new int[] {-1, 2, 3, 4, INT_MIN, INT_MAX, 256}) {
            refused("save " + s, SaveCallsTest::small, w -> w.differs(s, 0), BAD);
            refused("and no thing", SaveCallsTest::small, w -> w.differs(s, 3), BAD);
        }
        for (int x : outside(0, 2)) {
            refused("thing " + x, SaveCallsTest::small, w -> w.differs(0, x), BAD);
        }
    }
}
