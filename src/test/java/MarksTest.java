/** The sentences of "Terms" on MARKS and on refusals, and promises 26 to 28. */
final class MarksTest extends Sentences {
    public static void main(String[] args) {
        run(MarksTest.class);
    }

    private static World small() {
        World w = World.of(WHOLE, WORD, THING, BYTES, BYTES).things(2, 0);
        w.put(0, 0, 9);
        w.put(0, 1, 4);
        w.refer(0, 2, 1);
        w.row(0, 3, 2);
        w.save(0, 0);
        return w;
    }

    private static World marked(int marks) {
        World w = small();
        for (int m = 0; m < marks; m++) {
            w.mark();
            w.put(0, 0, 100 + m);
        }
        return w;
    }

    private static World noted(int changes) {
        World w = small();
        w.mark();
        for (int i = 0; i < changes; i++) {
            w.put(0, 0, i);
        }
        return w;
    }

    // ---- terms ----

    @Says(in = "Terms", value = "MARKS, up to 4, one within the other.")
    static void marksAreFour() {
        World w = small();
        for (int m = 1; m <= 4; m++) {
            w.put(0, 0, m * 10);
            due("mark", w.mark(), m);
            w.put(0, 0, m * 10 + 1);
        }
        due("fifth", w.mark(), FULL);
        for (int m = 4; m >= 1; m--) {
            due("undo", w.undo(), m == 4 ? 1 : 2);
            due("as at mark " + m, w.at(0, 0), m * 10);
            due("marks", w.count(2), m - 1);
        }
        due("no more", w.undo(), STATE);
    }

    @Says(in = "Terms", value = "From a MARK on each change by put(), refer(), row(), share(), item() is noted")
    static void eachChangeIsNoted() {
        World w = small();
        due("none ahead of a mark", w.count(3), 0);
        w.mark();
        w.put(0, 0, 1);
        due("put, a whole", w.count(3), 1);
        w.put(0, 1, 1);
        due("put, a word", w.count(3), 2);
        w.refer(0, 2, 0);
        due("refer", w.count(3), 3);
        w.item(0, 3, 0, 1);
        due("item", w.count(3), 4);
        w.share(0, 4, 0, 3);
        due("share", w.count(3), 5);
        w.row(0, 3, 1);
        due("row", w.count(3), 6);
        w.row(0, 3, -1);
        due("no row", w.count(3), 7);
        w.put(0, 0, 1);
        due("put of the same", w.count(3), 8);
        due("undone", w.undo(), 8);
        due("none is left", w.count(3), 0);
        w.put(0, 0, 5);
        due("none behind it", w.count(3), 0);
    }

    @Says(in = "Terms", value = "each change by put(), refer(), row(), share(), item()")
    static void nothingElseIsNoted() {
        World w = small();
        w.mark();
        w.type();
        w.thing(0);
        w.shut(0, 4, true);
        w.check(0, LEAST, 0, 0, 0);
        w.unchecked(0);
        w.word(3, false);
        w.shut(0, 4, false);
        w.save(1, 0);
        w.restore(1, 0);
        w.like(0, 1);
        w.differs(0, 0);
        w.judge(0);
        w.mark();
        due("noted", w.count(3), 0);
        due("undone", w.undo(), 0);
        due("undone", w.undo(), 0);
        due("types", w.count(0), 2);
        due("things", w.count(1), 5);
        due("word", w.word(3, true), 0);
        due("save", w.saved(1, 0), 2);
    }

    @Says(in = "Terms", value = "each change .. is noted")
    static void refusedCallsAreNotNoted() {
        World w = small();
        w.mark();
        w.put(2, 0, 0);
        w.put(0, 2, 0);
        w.put(0, 1, 16);
        w.refer(0, 2, 2);
        w.refer(0, 0, 1);
        w.row(0, 3, 13);
        w.row(0, 3, -2);
        w.share(0, 0, 0, 3);
        w.item(0, 3, 2, 0);
        w.item(0, 4, 0, 0);
        due("noted", w.count(3), 0);
    }

    @Says(in = "Terms", value = "(80 in all; one more is FULL, asked last)")
    static void eightyAreNoted() {
        World w = small();
        for (int i = 0; i < 80; i++) {
            if (i % 20 == 0) {
                due("mark", w.mark(), i / 20 + 1);
            }
            due("change " + i, w.put(0, 0, i), 1);
        }
        due("noted", w.count(3), 80);
        due("one more", w.put(0, 0, 80), FULL);
        due("no mark more either", w.mark(), FULL);
        due("a thing more is fine", w.thing(0), 2);
        due("putting back is fine", w.restore(0, 0), 3);
        due("saving is fine", w.save(1, 0), 2);
        due("undone", w.undo(), 20);
        due("room for one", w.put(0, 0, 60), 1);
        due("noted", w.count(3), 61);
        due("undone", w.undo(), 21);
        due("as at the third mark", w.at(0, 0), 39);
        w.undo();
        due("the rest", w.undo(), 20);
        due("as it was", w.at(0, 0), 9);
        due("without a mark there is always room", w.put(0, 0, 1), 1);
    }

    @Says(in = "Terms", value = "one more is FULL")
    static void theEightiethIsFine() {
        due("put", noted(79).put(0, 0, 1), 1);
        due("refer", noted(79).refer(0, 2, 0), 1);
        due("row", noted(79).row(0, 3, 1), 1);
        due("share", noted(79).share(0, 4, 0, 3), 1);
        due("item", noted(79).item(0, 3, 1, 1), 1);
        refused("put", () -> noted(80), w -> w.put(0, 0, 1), FULL);
        refused("refer", () -> noted(80), w -> w.refer(0, 2, 0), FULL);
        refused("row", () -> noted(80), w -> w.row(0, 3, 1), FULL);
        refused("share", () -> noted(80), w -> w.share(0, 4, 0, 3), FULL);
        refused("item", () -> noted(80), w -> w.item(0, 3, 1, 1), FULL);
    }

    @Says(in = "Terms", value = "asked last")
    static void fullIsAskedLast() {
        refused("put", () -> noted(80), w -> w.put(9, 0, 1), NONE);
        refused("put", () -> noted(80), w -> w.put(0, 2, 1), CAST);
        refused("put", () -> noted(80), w -> w.put(0, 1, 16), WORD_OUT);
        refused("refer", () -> noted(80), w -> w.refer(0, 2, 9), NONE);
        refused("refer", () -> noted(80), w -> w.refer(0, 1, 0), CAST);
        refused("row", () -> noted(80), w -> w.row(0, 3, 13), BAD);
        refused("row", () -> noted(80), w -> w.row(0, 0, 1), CAST);
        refused("row", () -> noted(80), w -> w.row(0, 3, -2), SIZE);
        refused("share", () -> noted(80), w -> w.share(0, 3, 9, 3), NONE);
        refused("share", () -> noted(80), w -> w.share(0, 3, 0, 0), CAST);
        refused("item", () -> noted(80), w -> w.item(0, 0, 0, 1), CAST);
        refused("item", () -> noted(80), w -> w.item(0, 4, 0, 1), NULL);
        refused("item", () -> noted(80), w -> w.item(0, 3, 2, 1), INDEX);
    }

    @Says(in = "Terms", value = "UNDONE: what was noted since the latest MARK is as it was, the latest first")
    static void theLatestIsUndoneFirst() {
        World w = small();
        w.item(0, 3, 0, 5);
        w.mark();
        w.put(0, 0, 1);
        w.put(0, 0, 2);
        w.put(0, 0, 3);
        w.item(0, 3, 0, 6);
        w.item(0, 3, 0, 7);
        w.row(0, 3, 3);
        w.item(0, 3, 0, 8);
        w.share(0, 4, 0, 3);
        w.row(0, 3, -1);
        w.refer(0, 2, 0);
        w.refer(0, 2, -1);
        due("undone", w.undo(), 11);
        due("whole", w.at(0, 0), 9);
        due("row", w.at(0, 3), 2);
        due("item", w.itemAt(0, 3, 0), 5);
        due("no row", w.at(0, 4), NONE);
        due("leads", w.at(0, 2), 1);
        due("alike but for the item", w.differs(0, 0), 13);
    }

    @Says(in = "Terms", value = "is as it was")
    static void sharedRowsAreTheSameOnesAgain() {
        World w = small();
        w.share(0, 4, 0, 3);
        w.share(1, 3, 0, 3);
        w.mark();
        w.row(0, 4, 2);
        w.row(0, 3, -1);
        w.item(1, 3, 1, 77);
        w.undo();
        due("item", w.itemAt(1, 3, 1), 0);
        w.item(1, 3, 1, 4);
        due("the same row", w.itemAt(0, 3, 1), 4);
        due("the same row", w.itemAt(0, 4, 1), 4);
        due("one row", w.save(1, 0), 2);
        due("one row", w.saved(1, 1), 1);
    }

    @Says(in = "Terms", value = "is as it was")
    static void itemsOfEveryLaneComeBack() {
        World w = World.of(BYTES, INTS, LONGS).things(1, 0);
        long[] least = {-128, INT_MIN, LONG_MIN};
        for (int k = 0; k < 3; k++) {
            w.row(0, k, 12);
            w.item(0, k, 11, LONG_MIN + 128);
            w.item(0, k, 11, least[k]);
        }
        w.mark();
        for (int k = 0; k < 3; k++) {
            w.item(0, k, 11, LONG_MAX);
        }
        due("undone", w.undo(), 3);
        for (int k = 0; k < 3; k++) {
            due("lane " + (BYTES + k), w.itemAt(0, k, 11), least[k]);
        }
    }

    @Says(in = "Terms", value = "since the latest MARK")
    static void onlyTheLatestMarkIsUndone() {
        World w = marked(4);
        due("whole", w.at(0, 0), 103);
        due("undone", w.undo(), 1);
        due("as at the fourth mark", w.at(0, 0), 102);
        w.put(0, 0, 55);
        due("a change since the third", w.undo(), 2);
        due("as at the third mark", w.at(0, 0), 101);
        due("a mark anew", w.mark(), 3);
        due("nothing since", w.undo(), 0);
        due("the second", w.undo(), 1);
        due("the first", w.undo(), 1);
        due("as it was", w.at(0, 0), 9);
    }

    @Says(in = "Terms", value = "the MARK is gone")
    static void theMarkIsGone() {
        World w = marked(1);
        w.undo();
        due("marks", w.count(2), 0);
        due("noted", w.count(3), 0);
        due("undo", w.undo(), STATE);
        due("a field can come", w.drop(0, 4), 4);
        due("things can go", w.forget(), 2);
    }

    @Says(in = "Terms", value = "While a MARK stands no FIELD can come or go (STATE)")
    static void noFieldComesOrGoes() {
        for (int marks = 1; marks <= 4; marks++) {
            World w = World.of(WHOLE).typed().things(1, 0);
            for (int m = 0; m < marks; m++) {
                w.mark();
            }
            for (int m = 0; m < marks; m++) {
                due("field", w.field(0, 0, WHOLE, 0), STATE);
                due("field of a type without things", w.field(1, 0, WHOLE, 0), STATE);
                due("drop", w.drop(0, 0), STATE);
                due("fields", w.told(0, 1), 1);
                w.undo();
            }
            due("field", w.field(0, 0, WHOLE, 0), 1);
            due("drop", w.drop(0, 0), 1);
        }
    }

    @Says(in = "Terms", value = "From a MARK on")
    static void thingsOfAfterTheMarkAreUndoneToo() {
        World w = small();
        w.mark();
        int x = w.thing(0);
        w.put(x, 0, 3);
        int y = w.restore(0, 0);
        w.put(y, 0, 4);
        w.row(y, 3, 1);
        due("undone", w.undo(), 3);
        due("a new thing's whole", w.at(x, 0), 7);
        due("whole of one put back", w.at(y, 0), 9);
        due("row of one put back", w.at(y, 3), 2);
    }

    @Says(in = "Terms", value = "Refusals are answers below 0 .. NONE there is no such thing, BAD a number is not as told, STATE, FULL")
    static void refusalsHaveTheirNumbers() {
        due("NONE", StateRecords.NONE, -1);
        due("BAD", StateRecords.BAD, -2);
        due("STATE", StateRecords.STATE, -3);
        due("FULL", StateRecords.FULL, -4);
        due("no such thing", small().judge(2), StateRecords.NONE);
        due("a number is not as told", small().count(4), StateRecords.BAD);
        due("state", small().undo(), StateRecords.STATE);
        due("full", marked(4).mark(), StateRecords.FULL);
    }

    // ---- mark, undo, count ----

    @Says(in = "Promise 26", value = "A MARK: how many.")
    static void markTellsHowMany() {
        World w = new World();
        due("first", w.mark(), 1);
        due("second", w.mark(), 2);
        w.undo();
        due("second anew", w.mark(), 2);
        due("third", w.mark(), 3);
        due("fourth", w.mark(), 4);
        due("marks", w.count(2), 4);
    }

    @Says(in = "Promise 26", value = "FULL.")
    static void marksAreFull() {
        refused("fifth", () -> marked(4), w -> w.mark(), FULL);
        World w = marked(4);
        w.mark();
        due("undone", w.undo(), 1);
        due("room for one", w.mark(), 4);
    }

    @Says(in = "Promise 26", value = "A MARK")
    static void aMarkWhenChangesAreFull() {
        World w = noted(80);
        due("mark", w.mark(), 2);
        due("put", w.put(0, 0, 1), FULL);
        due("undone", w.undo(), 0);
        due("undone", w.undo(), 80);
        due("as it was", w.at(0, 0), 9);
    }

    @Says(in = "Promise 27", value = "UNDONE: how many changes.")
    static void undoTellsHowMany() {
        for (int changes : new int[] {0, 1, 79, 80}) {
            World w = noted(changes);
            due("undone", w.undo(), changes);
            due("as it was", w.at(0, 0), 9);
            due("noted", w.count(3), 0);
        }
    }

    @Says(in = "Promise 27", value = "STATE: no MARK.")
    static void undoWithoutAMark() {
        refused("never a mark", MarksTest::small, w -> w.undo(), STATE);
        World w = marked(1);
        w.undo();
        due("no mark any more", w.undo(), STATE);
        due("still", w.undo(), STATE);
        due("the whole stays", w.at(0, 0), 9);
    }

    @Says(in = "Promise 28", value = "What = 0 TYPES, 1 THINGS, 2 MARKS, 3 changes that are noted.")
    static void countTells() {
        World w = marked(3);
        w.put(0, 0, 1);
        w.type();
        due("types", w.count(0), 2);
        due("things", w.count(1), 2);
        due("marks", w.count(2), 3);
        due("changes", w.count(3), 4);
        w.undo();
        due("marks", w.count(2), 2);
        due("changes", w.count(3), 2);
        due("at most", noted(80).count(3), 80);
        due("at most", World.of().things(30, 0).count(1), 30);
    }

    @Says(in = "Promise 28", value = "BAD.")
    static void countOfBad() {
        for (int what : outside(0, 3)) {
            refused("what " + what, () -> marked(2), w -> w.count(what), BAD);
        }
    }
}
