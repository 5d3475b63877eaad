/** Promises 1 to 9: a new object, and the calls that change TYPES and WORDS and make THINGS. */
final class TypeCallsTest extends Sentences {
    public static void main(String[] args) {
        run(TypeCallsTest.class);
    }

    /** TYPE 0 has a FIELD of each LANE but LONGS, TYPE 1 one of LONGS; a THING of each, a CHECK, a SAVE, a SHUT FIELD. */
    private static World small() {
        World w = World.of(WHOLE, WORD, THING, BYTES).typed(LONGS).things(1, 0).things(1, 1);
        w.put(0, 0, 9);
        w.put(0, 1, 4);
        w.refer(0, 2, 1);
        w.row(0, 3, 2);
        w.row(1, 0, 1);
        w.item(1, 0, 0, -5);
        w.save(0, 0);
        w.check(0, LEAST, 0, 0, 8);
        w.shut(1, 0, true);
        w.word(7, false);
        return w;
    }

    private static World marked() {
        World w = small();
        w.mark();
        w.put(0, 0, 10);
        return w;
    }

    private static World fiveFields() {
        World w = small();
        w.field(0, 19, WHOLE, 1);
        return w;
    }

    private static World markedWithFiveFields() {
        World w = fiveFields();
        w.mark();
        return w;
    }

    // ---- a new object ----

    @Says(in = "Promise 1", value = "No TYPES, THINGS, SAVES, MARKS.")
    static void newObject() {
        World w = new World();
        for (int what = 0; what < 4; what++) {
            due("count " + what, w.count(what), 0);
        }
        for (int s = 0; s < 4; s++) {
            due("records", w.saved(s, 0), 0);
            due("rows", w.saved(s, 1), 0);
            due("restore", w.restore(s, 0), NONE);
            due("differs", w.differs(s, 0), BAD);
        }
        due("drop", w.drop(0, 0), NONE);
        due("shut", w.shut(0, 0, true), NONE);
        due("unchecked", w.unchecked(0), NONE);
        due("thing", w.thing(0), NONE);
        due("at", w.at(0, 0), ARGUMENT);
        due("told", w.told(0, 0), NONE);
        due("judge", w.judge(0), NONE);
        due("like", w.like(0, 0), NONE);
        due("save", w.save(0, 0), NONE);
        due("forget", w.forget(), 0);
        due("undo", w.undo(), STATE);
        due("fault", w.fault(0), NO_FAULT);
    }

    @Says(in = "Promise 1", value = "StateRecords()")
    static void objectsHaveNothingInCommon() {
        World used = small();
        used.mark();
        World w = new World();
        due("types", w.count(0), 0);
        due("word 7", w.word(7, true), 1);
        due("marks", w.count(2), 0);
        due("type", w.type(), 0);
        due("the other keeps its own", used.count(0), 2);
    }

    // ---- type ----

    @Says(in = "Promise 2", value = "A TYPE without FIELDS: its number.")
    static void typeWithoutFields() {
        World w = small();
        due("its number", w.type(), 2);
        due("types", w.count(0), 3);
        due("thing", w.thing(2), 2);
        due("fields", w.told(2, 1), 0);
        due("field 0", w.at(2, 0), OUT_OF_BOUNDS);
        due("checks", w.unchecked(2), 0);
        due("judged", w.judge(2), 1);
        due("saved", w.save(1, 2), 1);
        due("alike", w.differs(1, 2), NONE);
        due("put back", w.restore(1, 0), 3);
        due("like it", w.like(2, 3), 1);
        w.mark();
        due("also while a mark stands", w.type(), 3);
    }

    private static World eightTypes() {
        World w = small();
        for (int t = 2; t < 8; t++) {
            w.type();
        }
        return w;
    }

    @Says(in = "Promise 2", value = "FULL.")
    static void typesAreFull() {
        due("the last", eightTypes().count(0), 8);
        refused("ninth", TypeCallsTest::eightTypes, w -> w.type(), FULL);
    }

    // ---- field ----

    @Says(in = "Promise 3", value = "A FIELD comes behind the others; .. its number")
    static void fieldComesBehind() {
        World w = small();
        due("fifth", w.field(0, 0, INTS, 0), 4);
        due("the others stay", w.at(0, 0), 9);
        due("the others stay", w.at(0, 3), 2);
        due("it is of its lane", w.row(0, 4, 1), 1);
        due("first of a type", eightTypes().field(7, 19, BYTES, 0), 0);
    }

    @Says(in = "Promise 3", value = "THINGS of the TYPE have its DEFAULT (of a WHOLE v)")
    static void thingsHaveTheDefault() {
        World w = small();
        w.things(28, 1);
        w.field(1, 0, WHOLE, LONG_MAX);
        for (int x = 1; x < 30; x++) {
            due("thing " + x, w.at(x, 1), LONG_MAX);
        }
        due("a thing of another type", w.told(0, 1), 4);
        w.field(1, 1, WORD, 4);
        due("a word", w.at(29, 2), NONE);
        w.put(1, 1, 5);
        w.drop(1, 1);
        w.field(1, 0, WHOLE, -2);
        due("anew", w.at(1, 2), -2);
    }

    @Says(in = "Promise 3", value = "NONE: the TYPE")
    static void fieldOfNoType() {
        for (int t : outside(0, 1)) {
            refused("type " + t, TypeCallsTest::small, w -> w.field(t, 0, WHOLE, 0), NONE);
        }
        refused("and a bad name", TypeCallsTest::small, w -> w.field(2, 20, WHOLE, 0), NONE);
        refused("and a bad lane", TypeCallsTest::small, w -> w.field(2, 0, 6, 0), NONE);
        refused("and a mark", TypeCallsTest::marked, w -> w.field(-1, 0, WHOLE, 0), NONE);
    }

    @Says(in = "Promise 3", value = "BAD: NAME (also one that is there), LANE")
    static void fieldOfBadNameOrLane() {
        for (int name : outside(0, 19)) {
            refused("name " + name, TypeCallsTest::small, w -> w.field(0, name, WHOLE, 0), BAD);
        }
        for (int name = 10; name < 14; name++) {
            int there = name;
            refused("name " + name, TypeCallsTest::small, w -> w.field(0, there, WHOLE, 0), BAD);
        }
        for (int lane : outside(0, 5)) {
            refused("lane " + lane, TypeCallsTest::small, w -> w.field(0, 0, lane, 0), BAD);
        }
        refused("name, with a mark", TypeCallsTest::marked, w -> w.field(0, 20, WHOLE, 0), BAD);
        refused("name that is there, with a mark", TypeCallsTest::marked, w -> w.field(0, 10, WHOLE, 0), BAD);
        refused("lane, with a mark", TypeCallsTest::marked, w -> w.field(0, 0, -1, 0), BAD);
        refused("name, when full", TypeCallsTest::fiveFields, w -> w.field(0, -1, WHOLE, 0), BAD);
        refused("name that is there, when full", TypeCallsTest::fiveFields, w -> w.field(0, 19, WHOLE, 0), BAD);
        refused("lane, when full", TypeCallsTest::fiveFields, w -> w.field(0, 0, 6, 0), BAD);
    }

    @Says(in = "Promise 3", value = "STATE;")
    static void fieldWhileAMarkStands() {
        refused("a mark", TypeCallsTest::marked, w -> w.field(0, 0, WHOLE, 0), STATE);
        refused("a mark, when full", TypeCallsTest::markedWithFiveFields, w -> w.field(0, 0, WHOLE, 0), STATE);
        World w = marked();
        w.undo();
        due("the mark is gone", w.field(0, 0, WHOLE, 0), 4);
    }

    @Says(in = "Promise 3", value = "FULL.")
    static void fieldsAreFull() {
        refused("sixth", TypeCallsTest::fiveFields, w -> w.field(0, 0, WHOLE, 0), FULL);
    }

    // ---- drop ----

    @Says(in = "Promise 4", value = "A FIELD goes, with its values; .. how many are left")
    static void dropTellsHowManyAreLeft() {
        World w = small();
        for (int left = 3; left >= 0; left--) {
            due("drop the last", w.drop(0, left), left);
            due("fields", w.told(0, 1), left);
        }
        due("no more", w.drop(0, 0), NONE);
        due("the other type's", w.told(1, 1), 1);
        w.field(0, 10, WHOLE, 6);
        due("its old value is gone", w.at(0, 0), 6);
    }

    @Says(in = "Promise 4", value = "those behind it come one down")
    static void fieldsComeOneDown() {
        for (int gone = 0; gone < 4; gone++) {
            World w = World.of(WHOLE, WHOLE, WHOLE, WHOLE).things(2, 0);
            for (int k = 0; k < 4; k++) {
                w.put(1, k, 50 + k);
                w.shut(0, k, k == 3);
            }
            w.drop(0, gone);
            int k = 0;
            for (int was = 0; was < 4; was++) {
                if (was != gone) {
                    due("without " + gone + ", field " + k, w.at(1, k), 50 + was);
                    due("shut or not", w.shut(0, k, false), was == 3 ? 1 : 0);
                    k++;
                }
            }
            w.save(0, 1);
            w.put(1, 2, 0);
            due("the last one's name", w.differs(0, 1), gone == 3 ? 12 : 13);
        }
    }

    @Says(in = "Promise 4", value = "come one down")
    static void rowsAndDefaultsComeOneDown() {
        World w = World.of(BYTES, INTS, LONGS, THING, WHOLE).things(2, 0);
        w.row(0, 1, 1);
        w.row(0, 2, 2);
        w.refer(0, 3, 1);
        w.drop(0, 0);
        due("ints", w.at(0, 0), 1);
        due("longs", w.at(0, 1), 2);
        due("thing", w.at(0, 2), 1);
        due("whole", w.at(0, 3), 7);
        due("no fifth", w.at(0, 4), OUT_OF_BOUNDS);
        w.item(0, 1, 1, TWO_32);
        due("longs are longs", w.itemAt(0, 1, 1), TWO_32);
        due("a new thing's whole", w.at(w.thing(0), 3), 7);
        w.field(0, 10, BYTES, 0);
        due("a new field's row", w.at(0, 4), NONE);
    }

    @Says(in = "Promise 4", value = "(CHECKS stay as they are)")
    static void checksStayAsTheyAre() {
        World w = World.of(WHOLE, WHOLE, WORD).things(1, 0);
        w.put(0, 0, 5);
        w.put(0, 1, 6);
        w.check(0, LEAST, 1, 0, 6);
        w.check(0, LEAST, 0, 0, 6);
        due("the second fails", w.judge(0), OWN);
        w.drop(0, 0);
        due("field 1 is a word now", w.judge(0), CAST);
        w.drop(0, 1);
        due("field 1 is not there now", w.judge(0), CAST);
        due("both are there", w.unchecked(0), 2);
    }

    @Says(in = "Promise 4", value = "NONE;")
    static void dropOfNone() {
        for (int k : outside(0, 3)) {
            refused("field " + k, TypeCallsTest::small, w -> w.drop(0, k), NONE);
        }
        for (int t : outside(0, 1)) {
            refused("type " + t, TypeCallsTest::small, w -> w.drop(t, 0), NONE);
        }
        refused("field, with a mark", TypeCallsTest::marked, w -> w.drop(0, 4), NONE);
        refused("type, with a mark", TypeCallsTest::marked, w -> w.drop(2, 0), NONE);
    }

    @Says(in = "Promise 4", value = "STATE.")
    static void dropWhileAMarkStands() {
        for (int k = 0; k < 4; k++) {
            int there = k;
            refused("field " + k, TypeCallsTest::marked, w -> w.drop(0, there), STATE);
        }
        World w = marked();
        w.undo();
        due("the mark is gone", w.drop(0, 3), 3);
    }

    // ---- shut ----

    @Says(in = "Promise 5", value = "A FIELD is SHUT, or not: what it was (1, 0)")
    static void shutTellsWhatItWas() {
        World w = World.of(WHOLE, WHOLE, WHOLE, WHOLE, WHOLE).typed(WHOLE).things(1, 0).things(1, 1);
        for (int k = 0; k < 5; k++) {
            due("not at first", w.shut(0, k, false), 0);
            due("was not", w.shut(0, k, true), 0);
            due("was", w.shut(0, k, true), 1);
            due("save", w.save(0, 0), SHUT);
            due("its name", w.fault(1), 10 + k);
            due("was", w.shut(0, k, false), 1);
            due("was not", w.shut(0, k, false), 0);
            due("save", w.save(0, 0), 1);
        }
        w.shut(0, 0, true);
        due("another type's field", w.shut(1, 0, false), 0);
        w.mark();
        due("also while a mark stands", w.shut(0, 0, false), 1);
        due("and is not undone", w.undo(), 0);
        due("by it", w.shut(0, 0, false), 0);
    }

    @Says(in = "Promise 5", value = "A FIELD is SHUT, or not")
    static void aNewFieldIsNotShut() {
        World w = World.of(WHOLE, WHOLE).things(1, 0);
        w.shut(0, 0, true);
        w.shut(0, 1, true);
        w.drop(0, 1);
        w.field(0, 11, WHOLE, 0);
        due("one that comes where a shut one was", w.shut(0, 1, false), 0);
        due("the one ahead stays shut", w.shut(0, 0, false), 1);
    }

    @Says(in = "Promise 5", value = "A FIELD is SHUT")
    static void shutHindersOnlySaving() {
        World w = World.of(WHOLE).things(2, 0);
        w.save(0, 0);
        w.shut(0, 0, true);
        due("put", w.put(0, 0, 3), 1);
        due("at", w.at(0, 0), 3);
        due("restore", w.restore(0, 0), 2);
        due("its value comes back", w.at(2, 0), 7);
        due("like", w.like(1, 2), 1);
        due("differs", w.differs(0, 0), 10);
        due("judge", w.judge(0), 1);
    }

    @Says(in = "Promise 5", value = "NONE.")
    static void shutOfNone() {
        for (int k : outside(0, 3)) {
            refused("field " + k, TypeCallsTest::small, w -> w.shut(0, k, true), NONE);
        }
        for (int t : outside(0, 1)) {
            refused("type " + t, TypeCallsTest::small, w -> w.shut(t, 0, false), NONE);
        }
    }

    // ---- check, unchecked ----

    private static World fourChecks() {
        World w = small();
        for (int c = 2; c <= 4; c++) {
            w.check(0, LEAST, 0, 0, c);
        }
        return w;
    }

    @Says(in = "Promise 6", value = "A CHECK more: how many.")
    static void checksAreCounted() {
        World w = World.of(WHOLE).typed(WHOLE);
        for (int c = 1; c <= 4; c++) {
            due("check", w.check(0, c, 4, 0, LONG_MIN), c);
        }
        due("another type's", w.check(1, DIVIDES, 0, 4, LONG_MAX), 1);
        w.mark();
        due("also while a mark stands", w.check(1, LEADS, 0, 0, 0), 2);
    }

    @Says(in = "Promise 6", value = "NONE: the TYPE")
    static void checkOfNoType() {
        for (int t : outside(0, 1)) {
            refused("type " + t, TypeCallsTest::small, w -> w.check(t, LEAST, 0, 0, 0), NONE);
        }
        refused("and a bad kind", TypeCallsTest::small, w -> w.check(2, 6, 0, 0, 0), NONE);
        refused("and a bad a", TypeCallsTest::small, w -> w.check(2, 0, 5, 0, 0), NONE);
        refused("and a bad b", TypeCallsTest::small, w -> w.check(2, 0, 0, 5, 0), NONE);
    }

    @Says(in = "Promise 6", value = "BAD: kind (0 .. 5), a, b (0 .. 4)")
    static void checkOfBadNumbers() {
        for (int kind : outside(0, 5)) {
            refused("kind " + kind, TypeCallsTest::small, w -> w.check(0, kind, 0, 0, 0), BAD);
        }
        for (int k : outside(0, 4)) {
            refused("a " + k, TypeCallsTest::small, w -> w.check(0, LEAST, k, 0, 0), BAD);
            refused("b " + k, TypeCallsTest::small, w -> w.check(0, LEAST, 0, k, 0), BAD);
        }
        refused("kind, when full", TypeCallsTest::fourChecks, w -> w.check(0, 6, 0, 0, 0), BAD);
        refused("a, when full", TypeCallsTest::fourChecks, w -> w.check(0, 0, 5, 0, 0), BAD);
        refused("b, when full", TypeCallsTest::fourChecks, w -> w.check(0, 0, 0, -1, 0), BAD);
        for (int kind = 0; kind < 6; kind++) {
            due("kind " + kind, small().check(0, kind, 0, 0, 0), 2);
        }
        for (int k = 0; k < 5; k++) {
            due("a, b " + k, small().check(0, LEAST, k, 4 - k, 0), 2);
        }
    }

    @Says(in = "Promise 6", value = "FULL.")
    static void checksAreFull() {
        refused("fifth", TypeCallsTest::fourChecks, w -> w.check(0, LEAST, 0, 0, 99), FULL);
    }

    @Says(in = "Promise 6", value = "(A FIELD that there is not: CAST when it is done.)")
    static void checkOfAFieldThatThereIsNot() {
        World w = World.of().things(1, 0);
        for (int kind = 0; kind < 6; kind++) {
            due("check", w.check(0, kind, 0, 0, LONG_MIN), 1);
            due("kind " + kind, w.judge(0), CAST);
            w.unchecked(0);
        }
        w.field(0, 0, WHOLE, 1);
        w.field(0, 1, BYTES, 1);
        w.check(0, DIVIDES, 0, 2, 0);
        due("b of divides", w.judge(0), CAST);
        w.unchecked(0);
        w.check(0, HAS, 1, 2, 0);
        due("b of has", w.judge(0), CAST);
        w.field(0, 2, WHOLE, 1);
        due("it is there now", w.judge(0), NULL);
    }

    @Says(in = "Promise 7", value = "A TYPE has no CHECKS: how many it had.")
    static void uncheckedTellsHowMany() {
        for (int checks = 0; checks <= 4; checks++) {
            World w = World.of(WHOLE).typed(WHOLE).things(1, 0);
            w.check(1, LEAST, 0, 0, 0);
            for (int c = 0; c < checks; c++) {
                w.check(0, LEAST, 0, 0, 100);
            }
            due("had", w.unchecked(0), checks);
            due("has none", w.judge(0), 1);
            due("had none", w.unchecked(0), 0);
            due("the first anew", w.check(0, LEAST, 0, 0, 7), 1);
            due("none of the old ones", w.judge(0), 1);
            due("another type's stays", w.unchecked(1), 1);
        }
    }

    @Says(in = "Promise 7", value = "NONE.")
    static void uncheckedOfNone() {
        for (int t : outside(0, 1)) {
            refused("type " + t, TypeCallsTest::small, w -> w.unchecked(t), NONE);
        }
    }

    // ---- word ----

    @Says(in = "Promise 8", value = "A WORD is in USE, or not: what it was (1, 0).")
    static void wordTellsWhatItWas() {
        World w = new World();
        for (int n : new int[] {0, 15}) {
            due("was in use", w.word(n, true), 1);
            due("was in use", w.word(n, false), 1);
            due("was not", w.word(n, false), 0);
            due("was not", w.word(n, true), 0);
            due("was in use", w.word(n, true), 1);
        }
        w.word(8, false);
        due("the one ahead", w.word(7, true), 1);
        due("the one behind", w.word(9, true), 1);
    }

    @Says(in = "Promise 8", value = "NONE.")
    static void wordOfNone() {
        for (int n : outside(0, 15)) {
            refused("word " + n, TypeCallsTest::small, w -> w.word(n, false), NONE);
        }
    }

    @Says(in = "Promise 8", value = "(THINGS that have it keep it.)")
    static void thingsKeepTheirWords() {
        World w = World.of(WORD).things(2, 0);
        w.put(0, 0, 15);
        w.put(1, 0, 15);
        w.save(0, 0);
        w.word(15, false);
        due("it is kept", w.at(0, 0), 15);
        due("like", w.like(0, 1), 1);
        due("saved again", w.save(1, 0), 1);
        due("alike", w.differs(0, 1), NONE);
        due("but not put anew", w.put(0, 0, 15), WORD_OUT);
        w.mark();
        w.put(0, 0, 3);
        w.undo();
        due("it comes back when all is undone", w.at(0, 0), 15);
    }

    // ---- thing ----

    private static World thirtyThings() {
        return small().things(28, 1);
    }

    @Says(in = "Promise 9", value = "A THING of a TYPE: its number.")
    static void thingTellsItsNumber() {
        World w = eightTypes();
        due("of the last type", w.thing(7), 2);
        due("its type", w.told(2, 0), 7);
        w.mark();
        due("also while a mark stands", w.thing(0), 3);
        due("whole", w.at(3, 0), 7);
        due("and is not undone", w.undo(), 0);
        due("things", w.count(1), 4);
        w.forget();
        due("from 0 again", w.thing(0), 0);
        due("its whole is the default", w.at(0, 0), 7);
        due("it has no row", w.at(0, 3), NONE);
        due("it leads nowhere", w.at(0, 2), NONE);
    }

    @Says(in = "Promise 9", value = "NONE;")
    static void thingOfNoType() {
        for (int t : outside(0, 1)) {
            refused("type " + t, TypeCallsTest::small, w -> w.thing(t), NONE);
        }
        refused("type, when full", TypeCallsTest::thirtyThings, w -> w.thing(2), NONE);
    }

    @Says(in = "Promise 9", value = "FULL.")
    static void thingsAreFull() {
        due("the last", small().things(27, 1).thing(1), 29);
        refused("31st", TypeCallsTest::thirtyThings, w -> w.thing(1), FULL);
    }

    @Says(in = "Promise 9", value = "(No CHECK is done.)")
    static void noCheckIsDone() {
        World w = World.of(WHOLE);
        w.check(0, LEAST, 0, 0, 8);
        due("thing", w.thing(0), 0);
        due("it would fail", w.judge(0), OWN);
    }
}
