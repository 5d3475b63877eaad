/** The sentences of "Terms" on SAVES, PUTTING BACK and LIKE. */
final class SavesTest extends Sentences {
    public static void main(String[] args) {
        run(SavesTest.class);
    }

    // ---- saving ----

    @Says(in = "Terms", value = "SAVES 0 .. 3")
    static void savesAreFour() {
        World w = World.of(WHOLE).things(1, 0);
        for (int s = 0; s < 4; s++) {
            due("has nothing", w.saved(s, 0), 0);
            w.put(0, 0, s);
            due("save", w.save(s, 0), 1);
        }
        for (int s = 0; s < 4; s++) {
            due("its own", w.at(w.restore(s, 0), 0), s);
        }
        for (int s : outside(0, 3)) {
            due("save " + s, w.save(s, 0), NONE);
            due("saved " + s, w.saved(s, 0), NONE);
            due("restore " + s, w.restore(s, 0), NONE);
            due("differs " + s, w.differs(s, 0), BAD);
        }
    }

    @Says(in = "Terms", value = "SAVING a THING: it is RECORD 0")
    static void theThingIsRecordZero() {
        World w = World.of(THING, WHOLE).things(3, 0);
        for (int x = 0; x < 3; x++) {
            w.put(x, 1, x);
            w.refer(x, 0, (x + 1) % 3);
        }
        for (int x = 0; x < 3; x++) {
            w.save(0, x);
            due("the first of those put back", w.at(w.restore(0, 0), 1), x);
        }
    }

    @Says(in = "Terms", value = "each THING that a RECORD's FIELD leads to, by RECORDS, then FIELDS, is the next RECORD")
    static void recordsComeByRecordsThenFields() {
        World w = World.of(THING, WHOLE, THING).things(7, 0);
        for (int x = 0; x < 7; x++) {
            w.put(x, 1, x);
        }
        // 0 leads to 5 and 1, 5 to 2 and 6, 1 to 4 and 3.
        int[][] ways = {{0, 5, 1}, {5, 2, 6}, {1, 4, 3}};
        for (int[] way : ways) {
            w.refer(way[0], 0, way[1]);
            w.refer(way[0], 2, way[2]);
        }
        due("records", w.save(0, 0), 7);
        due("put back", w.restore(0, 0), 7);
        long[] order = {0, 5, 1, 2, 6, 4, 3};
        for (int r = 0; r < 7; r++) {
            due("record " + r, w.at(7 + r, 1), order[r]);
        }
        w.put(3, 1, 99);
        due("the last record", w.differs(0, 0), 611);
    }

    @Says(in = "Terms", value = "is the next RECORD, if it is none yet")
    static void noThingIsTwoRecords() {
        World w = World.of(THING, THING).things(3, 0);
        due("alone", w.save(0, 0), 1);
        w.refer(0, 0, 0);
        w.refer(0, 1, 0);
        due("itself, twice", w.save(0, 0), 1);
        w.refer(0, 0, 1);
        w.refer(0, 1, 1);
        due("another, twice", w.save(0, 0), 2);
        w.refer(0, 1, 2);
        w.refer(1, 0, 2);
        w.refer(2, 0, 0);
        due("by two ways, and back", w.save(0, 0), 3);
        due("put back", w.restore(0, 0), 3);
        due("one way", w.at(3, 1), 5);
        due("the other way", w.at(4, 0), 5);
        due("back", w.at(5, 0), 3);
    }

    private static World chain(int howMany, int... lanes) {
        World w = World.of(lanes).things(howMany, 0);
        for (int x = 0; x + 1 < howMany; x++) {
            w.refer(x, 0, x + 1);
        }
        return w;
    }

    @Says(in = "Terms", value = "(30 at most) .. SAVING a THING")
    static void asManyRecordsAsThings() {
        World w = chain(30, THING, WHOLE);
        due("all", w.save(0, 0), 30);
        due("records", w.saved(0, 0), 30);
        due("from the last", w.save(1, 29), 1);
        w.refer(29, 0, 0);
        due("from the last, in a ring", w.save(1, 29), 30);
        w.put(29, 1, -8);
        due("the last one is another", w.differs(0, 0), 2910);
        w.refer(29, 0, -1);
        due("the last one is another", w.differs(0, 0), 2911);
        w.forget();
        due("all put back", w.restore(0, 0), 0);
        due("the last leads nowhere", w.at(29, 0), NONE);
        w.forget();
        due("the ring put back", w.restore(1, 0), 0);
        due("the last leads on", w.at(29, 0), 0);
        due("like it", w.like(0, 1), 1);
    }

    @Says(in = "Terms", value = "A RECORD has the TYPE's number, and of each FIELD its NAME, LANE and value")
    static void recordsKeepWhatThereWas() {
        World w = World.of(WHOLE, WORD, THING, BYTES).things(2, 0);
        w.put(0, 0, 1);
        w.put(0, 1, 2);
        w.refer(0, 2, 1);
        w.row(0, 3, 1);
        w.save(0, 0);
        w.put(0, 0, 3);
        w.put(0, 1, 4);
        w.refer(0, 2, -1);
        w.row(0, 3, 2);
        w.put(1, 0, 5);
        due("put back", w.restore(0, 0), 2);
        due("whole", w.at(2, 0), 1);
        due("word", w.at(2, 1), 2);
        due("thing", w.at(2, 2), 3);
        due("row", w.at(2, 3), 1);
        due("whole of record 1", w.at(3, 0), 7);
        w.drop(0, 0);
        w.restore(0, 1);
        due("its names stay when the type's go", w.differs(0, 4), 99);
        due("as they were", w.restore(0, 0), GONE);
    }

    @Says(in = "Terms", value = "ROWS are numbered likewise as they are come to")
    static void rowsAreNumberedAsComeTo() {
        World w = World.of(THING, BYTES, BYTES).things(2, 0);
        w.refer(0, 0, 1);
        w.row(0, 1, 1);
        w.row(0, 2, 1);
        w.share(1, 1, 0, 2);
        w.share(1, 2, 0, 1);
        w.save(0, 0);
        due("rows", w.saved(0, 1), 2);
        w.share(1, 1, 0, 1);
        due("another row's number", w.differs(0, 0), 111);
        w.share(1, 1, 0, 2);
        w.share(1, 2, 0, 2);
        due("another row's number behind it", w.differs(0, 0), 112);
        w.share(1, 2, 0, 1);
        due("alike", w.differs(0, 0), NONE);
        w.row(1, 2, 1);
        w.save(0, 0);
        due("rows", w.saved(0, 1), 3);
        w.row(0, 1, -1);
        w.row(0, 2, -1);
        w.row(1, 1, -1);
        w.row(1, 2, -1);
        w.save(0, 0);
        due("no rows", w.saved(0, 1), 0);
    }

    @Says(in = "Terms", value = "(5 at most) .. ROWS are numbered likewise")
    static void asManyRowsAsThereCanBe() {
        World w = chain(30, THING, BYTES, INTS, LONGS, LONGS);
        for (int x = 0; x < 30; x++) {
            for (int k = 1; k < 5; k++) {
                w.row(x, k, 12);
            }
        }
        w.item(29, 4, 11, LONG_MIN);
        due("records", w.save(3, 0), 30);
        due("rows", w.saved(3, 1), 120);
        w.item(29, 4, 11, LONG_MAX);
        due("the last item", w.differs(3, 0), 2914);
        due("like itself", w.like(0, 0), 1);
        w.forget();
        due("put back", w.restore(3, 0), 0);
        due("the last item", w.itemAt(29, 4, 11), LONG_MIN);
        due("of its own", w.itemAt(29, 3, 11), 0);
        due("alike", w.differs(3, 0), NONE);
    }

    @Says(in = "Terms", value = "each with its LANE and a copy of its items")
    static void itemsAreCopied() {
        for (int lane = BYTES; lane <= LONGS; lane++) {
            World w = World.of(lane).things(1, 0);
            w.row(0, 0, 12);
            for (int i = 0; i < 12; i++) {
                w.item(0, 0, i, i - 6);
            }
            w.save(0, 0);
            for (int i = 0; i < 12; i++) {
                w.item(0, 0, i, 99);
            }
            w.restore(0, 0);
            w.restore(0, 0);
            w.item(1, 0, 0, 55);
            for (int i = 0; i < 12; i++) {
                due("item " + i, w.itemAt(2, 0, i), i - 6);
            }
            due("put back once more", w.itemAt(w.restore(0, 0), 0, 0), -6);
        }
    }

    @Says(in = "Terms", value = "SHUT FIELDS: SHUT at the first one")
    static void shutAtTheFirst() {
        World w = World.of(THING, WHOLE, WHOLE).typed(WHOLE, WHOLE).things(1, 0).things(2, 1);
        w.refer(0, 0, 1);
        w.shut(1, 1, true);
        due("in record 1", w.save(0, 0), SHUT);
        due("record", w.fault(0), 1);
        due("name", w.fault(1), 11);
        w.shut(1, 0, true);
        due("both fields of record 1", w.save(0, 0), SHUT);
        due("record", w.fault(0), 1);
        due("name of the first", w.fault(1), 10);
        w.shut(0, 2, true);
        due("in record 0 too", w.save(0, 0), SHUT);
        due("record", w.fault(0), 0);
        due("name", w.fault(1), 12);
        due("no check", w.fault(2), NONE);
        w.shut(0, 2, false);
        w.refer(0, 0, -1);
        due("in no record that there is", w.save(0, 0), 1);
        w.shut(0, 0, true);
        due("a field that has nothing", w.save(0, 0), SHUT);
        due("record", w.fault(0), 0);
        due("name", w.fault(1), 10);
    }

    // ---- putting back ----

    @Says(in = "Terms", value = "for each RECORD a new THING of that TYPE, as it is now (in their order, with the next numbers)")
    static void newThingsComeNext() {
        World w = World.of(THING).typed(WHOLE).things(1, 0).things(1, 1);
        w.refer(0, 0, 1);
        w.save(0, 0);
        w.field(1, 3, WHOLE, 33);
        due("first", w.restore(0, 0), 2);
        due("things", w.count(1), 4);
        due("type of record 0", w.told(2, 0), 0);
        due("type of record 1", w.told(3, 0), 1);
        due("fields as they are now", w.told(3, 1), 2);
        due("leads to the new one", w.at(2, 0), 3);
        due("the old one leads to the old one", w.at(0, 0), 1);
        due("next", w.restore(0, 0), 4);
        due("leads to its own", w.at(4, 0), 5);
        w.forget();
        due("from 0 again", w.restore(0, 0), 0);
    }

    @Says(in = "Terms", value = "PUTTING BACK a SAVE: for each RECORD a new THING")
    static void eachPuttingBackHasRowsOfItsOwn() {
        for (int lane = BYTES; lane <= LONGS; lane++) {
            World w = World.of(lane, lane, lane, lane, lane).things(1, 0);
            for (int k = 0; k < 5; k++) {
                w.row(0, k, 1);
            }
            w.save(0, 0);
            w.restore(0, 0);
            for (int k = 0; k < 5; k++) {
                w.item(1, k, 0, 60 + k);
            }
            due("a second time", w.restore(0, 0), 2);
            for (int k = 0; k < 5; k++) {
                due("its own row in field " + k, w.itemAt(2, k, 0), 0);
            }
        }
    }

    @Says(in = "Terms", value = "FIELDS go by their NAMES")
    static void fieldsGoByNames() {
        World w = World.of(WHOLE, WHOLE, WORD).things(1, 0);
        w.put(0, 0, 100);
        w.put(0, 1, 101);
        w.put(0, 2, 2);
        w.save(0, 0);
        w.drop(0, 0);
        w.field(0, 10, WHOLE, 0);
        due("put back", w.restore(0, 0), 1);
        due("name 11", w.at(1, 0), 101);
        due("name 12", w.at(1, 1), 2);
        due("name 10", w.at(1, 2), 100);
    }

    @Says(in = "Terms", value = "GONE: the TYPE has none of that NAME (by a rule it is left out)")
    static void goneFields() {
        for (int gone = 0; gone < 3; gone++) {
            World w = World.of(WHOLE, THING, BYTES).things(1, 0);
            w.refer(0, 1, 0);
            w.row(0, 2, 1);
            w.save(0, 0);
            w.drop(0, gone);
            for (int rule = 0; rule < 4; rule++) {
                boolean leftOut = (rule & 1) != 0;
                due("gone " + gone + " by rule " + rule, w.restore(0, rule), leftOut ? 1 + rule / 2 : GONE);
                due("record", w.fault(0), 0);
                due("its name", w.fault(1), 10 + gone);
            }
            due("fields", w.told(1, 1), 2);
        }
    }

    @Says(in = "Terms", value = "by a rule it is left out")
    static void whatIsLeftOutLeadsStillToRecords() {
        World w = World.of(THING, WHOLE).things(2, 0);
        w.refer(0, 0, 1);
        w.save(0, 0);
        w.drop(0, 0);
        due("put back", w.restore(0, 1), 2);
        due("both records", w.count(1), 4);
        w.drop(0, 0);
        due("without any field", w.restore(0, 1), 4);
        due("fields", w.told(4, 1), 0);
    }

    @Says(in = "Terms", value = "LANE: it has another one there, but: a WORD may come to a WHOLE .. BYTES to INTS or LONGS, INTS to LONGS")
    static void lanesThatMayCome() {
        for (int from = 0; from < 6; from++) {
            for (int to = 0; to < 6; to++) {
                World w = World.of(from).things(1, 0);
                w.save(0, 0);
                w.drop(0, 0);
                w.field(0, 10, to, 5);
                boolean may = from == to || (from == WORD && to == WHOLE) || (from == BYTES && to >= INTS)
                        || (from == INTS && to == LONGS);
                for (int rule = 0; rule < 4; rule++) {
                    due(from + " to " + to + " by rule " + rule, w.restore(0, rule), may ? 1 + rule : OTHER_LANE);
                }
                due("name", w.fault(1), may ? NO_FAULT : 10);
            }
        }
    }

    @Says(in = "Terms", value = "a WORD may come to a WHOLE (its number, or -1)")
    static void wordsComeToWholes() {
        for (int word : new int[] {-1, 0, 15}) {
            World w = World.of(WORD).things(1, 0);
            w.put(0, 0, word);
            w.save(0, 0);
            w.drop(0, 0);
            w.field(0, 10, WHOLE, 77);
            due("put back", w.restore(0, 0), 1);
            due("number", w.at(1, 0), word);
            due("it is a whole", w.put(1, 0, LONG_MIN), 1);
        }
    }

    @Says(in = "Terms", value = "a WORD may come to a WHOLE (its number")
    static void aWordOutOfUseComesToAWhole() {
        World w = World.of(WORD).things(1, 0);
        w.put(0, 0, 9);
        w.save(0, 0);
        w.word(9, false);
        w.drop(0, 0);
        w.field(0, 10, WHOLE, 77);
        for (int rule = 0; rule < 4; rule++) {
            due("number by rule " + rule, w.at(w.restore(0, rule), 0), 9);
        }
    }

    @Says(in = "Terms", value = "(widened;")
    static void rowsAreWidened() {
        long[][] items = {{-128, -1, 0, 127}, {INT_MIN, -1, 0, INT_MAX}};
        for (int from = BYTES; from < LONGS; from++) {
            for (int to = from + 1; to <= LONGS; to++) {
                World w = World.of(from).things(1, 0);
                w.row(0, 0, 4);
                for (int i = 0; i < 4; i++) {
                    w.item(0, 0, i, items[from - BYTES][i]);
                }
                w.save(0, 0);
                w.drop(0, 0);
                w.field(0, 10, to, 0);
                due("put back", w.restore(0, 0), 1);
                due("items", w.at(1, 0), 4);
                for (int i = 0; i < 4; i++) {
                    due("item " + i, w.itemAt(1, 0, i), items[from - BYTES][i]);
                }
                w.item(1, 0, 0, INT_MAX);
                due("it is of the new lane", w.itemAt(1, 0, 0), INT_MAX);
                w.item(1, 0, 0, TWO_32);
                due("it is of the new lane", w.itemAt(1, 0, 0), to == LONGS ? TWO_32 : 0);
            }
        }
    }

    @Says(in = "Terms", value = "widened")
    static void emptyRowsAndNoneAreWidened() {
        World w = World.of(BYTES, BYTES).things(1, 0);
        w.row(0, 0, 0);
        w.save(0, 0);
        w.drop(0, 0);
        w.drop(0, 0);
        w.field(0, 10, INTS, 0);
        w.field(0, 11, LONGS, 0);
        due("put back", w.restore(0, 0), 1);
        due("empty", w.at(1, 0), 0);
        due("none", w.at(1, 1), NONE);
    }

    @Says(in = "Terms", value = "where several FIELDS had one ROW, those of like LANE have one again")
    static void rowsAreSharedAgain() {
        World w = World.of(BYTES, BYTES, BYTES, BYTES, BYTES).typed(BYTES).things(1, 0).things(1, 1);
        w.row(0, 0, 1);
        for (int k = 1; k < 5; k++) {
            w.share(0, k, 0, 0);
        }
        w.save(0, 0);
        for (int k = 0; k < 4; k++) {
            w.drop(0, 1);
        }
        w.field(0, 11, INTS, 0);
        w.field(0, 12, LONGS, 0);
        w.field(0, 13, LONGS, 0);
        w.field(0, 14, INTS, 0);
        due("put back", w.restore(0, 0), 2);
        w.item(2, 0, 0, 1);
        w.item(2, 1, 0, 2);
        w.item(2, 2, 0, 3);
        due("bytes", w.itemAt(2, 0, 0), 1);
        due("ints", w.itemAt(2, 1, 0), 2);
        due("longs", w.itemAt(2, 2, 0), 3);
        due("longs again", w.itemAt(2, 3, 0), 3);
        due("ints again", w.itemAt(2, 4, 0), 2);
        due("not the old one", w.itemAt(0, 0, 0), 0);
        due("a second time", w.restore(0, 0), 3);
        due("not those of the first time", w.itemAt(3, 1, 0), 0);
    }

    @Says(in = "Terms", value = "where several FIELDS had one ROW")
    static void rowsAreSharedAgainAmongThings() {
        World w = World.of(THING, INTS).typed(INTS).things(1, 0).things(1, 1);
        w.refer(0, 0, 1);
        w.row(0, 1, 1);
        w.share(1, 0, 0, 1);
        w.save(0, 0);
        due("put back", w.restore(0, 0), 2);
        w.item(2, 1, 0, 5);
        due("one row", w.itemAt(3, 0, 0), 5);
        w.drop(1, 0);
        w.field(1, 10, LONGS, 0);
        due("put back", w.restore(0, 0), 4);
        w.item(4, 1, 0, 6);
        due("of other lanes two", w.itemAt(5, 0, 0), 0);
        w.row(1, 0, 1);
        due("equal rows", w.save(0, 0), 2);
        due("are two", w.saved(0, 1), 2);
        w.restore(0, 0);
        w.item(6, 1, 0, 7);
        due("and stay two", w.itemAt(7, 0, 0), 0);
    }

    @Says(in = "Terms", value = "WORD: it is in no USE any more (by a rule it is NONE)")
    static void wordsOutOfUse() {
        for (int word : new int[] {0, 15}) {
            World w = World.of(WHOLE, WORD).things(1, 0);
            w.put(0, 1, word);
            w.save(0, 0);
            w.word(word, false);
            for (int rule = 0; rule < 4; rule++) {
                boolean none = (rule & 2) != 0;
                due("by rule " + rule, w.restore(0, rule), none ? rule - 1 : WORD_OUT);
                due("name", w.fault(1), 11);
            }
            due("none", w.at(1, 1), NONE);
            due("the old one keeps it", w.at(0, 1), word);
            w.word(word, true);
            due("in use again", w.at(w.restore(0, 2), 1), word);
        }
        World w = World.of(WORD).things(1, 0);
        w.save(0, 0);
        for (int word = 0; word < 16; word++) {
            w.word(word, false);
        }
        due("NONE is no word out of use", w.restore(0, 0), 1);
    }

    @Says(in = "Terms", value = "FIELDS that the RECORD has not: the DEFAULT")
    static void newFieldsHaveTheDefault() {
        World w = World.of().things(1, 0);
        w.save(0, 0);
        for (int lane = 0; lane < 5; lane++) {
            w.field(0, lane, lane, LONG_MIN);
        }
        due("put back", w.restore(0, 0), 1);
        due("whole", w.at(1, 0), LONG_MIN);
        for (int k = 1; k < 5; k++) {
            due("none", w.at(1, k), NONE);
        }
        w.drop(0, 0);
        w.field(0, 5, LONGS, 3);
        due("longs", w.at(w.restore(0, 0), 4), NONE);
    }

    @Says(in = "Terms", value = "of those that the RECORD has, in its order")
    static void faultsComeInTheRecordsOrder() {
        World w = World.of(WORD, WHOLE, WHOLE).things(1, 0);
        w.put(0, 0, 3);
        w.save(0, 0);
        w.drop(0, 0);
        w.drop(0, 0);
        w.drop(0, 0);
        w.field(0, 12, THING, 0);
        w.field(0, 10, WORD, 0);
        w.word(3, false);
        due("name 10 first", w.restore(0, 0), WORD_OUT);
        due("its name", w.fault(1), 10);
        due("name 11 then", w.restore(0, 2), GONE);
        due("its name", w.fault(1), 11);
        due("name 12 last", w.restore(0, 3), OTHER_LANE);
        due("its name", w.fault(1), 12);
        w.drop(0, 0);
        w.field(0, 12, WHOLE, 0);
        due("none", w.restore(0, 3), 1);
    }

    @Says(in = "Terms", value = "The first fault, by RECORDS, ends it")
    static void faultsComeByRecords() {
        World w = World.of(THING, WHOLE, WHOLE).typed(WORD).things(1, 0).things(1, 1);
        w.refer(0, 0, 1);
        w.put(1, 0, 5);
        w.save(0, 0);
        w.word(5, false);
        due("record 1's", w.restore(0, 0), WORD_OUT);
        due("record", w.fault(0), 1);
        due("name", w.fault(1), 10);
        w.drop(0, 2);
        due("record 0's last one", w.restore(0, 0), GONE);
        due("record", w.fault(0), 0);
        due("name", w.fault(1), 12);
        due("that left out, record 1's", w.restore(0, 1), WORD_OUT);
        due("record", w.fault(0), 1);
    }

    @Says(in = "Terms", value = "Then, for each RECORD, the CHECKS of its THING; the first that FAILS ends it")
    static void checksComeThenByRecords() {
        World w = World.of(THING, WHOLE).typed(WHOLE, WORD).things(1, 0).things(1, 1);
        w.refer(0, 0, 1);
        w.put(1, 1, 5);
        w.save(0, 0);
        w.check(1, LEAST, 0, 0, 7);
        w.check(1, LEAST, 0, 0, 8);
        due("record 1's second", w.restore(0, 0), OWN);
        due("record", w.fault(0), 1);
        due("no name", w.fault(1), NONE);
        due("check", w.fault(2), 1);
        w.check(0, DIVIDES, 1, 1, 0);
        w.check(0, MEETS, 0, 0, 0);
        due("record 0's second", w.restore(0, 0), CAST);
        due("record", w.fault(0), 0);
        due("check", w.fault(2), 1);
        w.word(5, false);
        due("record 1's field ahead of record 0's checks", w.restore(0, 0), WORD_OUT);
        due("record", w.fault(0), 1);
        due("name", w.fault(1), 11);
        due("no check", w.fault(2), NONE);
    }

    @Says(in = "Terms", value = "Then .. the CHECKS of its THING")
    static void checksSeeAllThatWasPutBack() {
        World w = World.of(THING).things(3, 0);
        w.refer(0, 0, 1);
        w.refer(1, 0, 2);
        w.refer(2, 0, 0);
        w.check(0, LEADS, 0, 0, 0);
        w.save(0, 0);
        due("a ring", w.restore(0, 0), 3);
        w.refer(2, 0, -1);
        w.save(0, 0);
        due("a chain's last but one", w.restore(0, 0), NULL);
        due("record", w.fault(0), 1);
        w.unchecked(0);
        w.field(0, 5, WHOLE, -1);
        w.check(0, HOLDS, 1, 0, 0);
        due("a default's", w.restore(0, 0), SIZE);
        due("record", w.fault(0), 0);
    }

    @Says(in = "Terms", value = "If it ends so, all is as it was")
    static void failedPuttingBackChangesNothing() {
        failed("GONE", () -> changed(true), w -> w.restore(0, 2), GONE, 1, 10, NONE);
        failed("LANE", () -> changed(false), w -> w.restore(0, 3), OTHER_LANE, 1, 10, NONE);
        failed("CHECK", SavesTest::checked, w -> w.restore(0, 0), OWN, 1, NONE, 1);
        failed("WORD", SavesTest::withoutWord, w -> w.restore(0, 1), WORD_OUT, 1, 10, NONE);
    }

    private static World changed(boolean gone) {
        World w = World.of(THING, BYTES).typed(WORD).things(1, 0).things(1, 1);
        w.refer(0, 0, 1);
        w.row(0, 1, 2);
        w.save(0, 0);
        w.drop(1, 0);
        if (!gone) {
            w.field(1, 10, THING, 0);
        }
        return w;
    }

    private static World checked() {
        World w = World.of(THING, BYTES).typed(WHOLE).things(1, 0).things(1, 1);
        w.refer(0, 0, 1);
        w.row(0, 1, 2);
        w.save(0, 0);
        w.check(1, LEAST, 0, 0, 7);
        w.check(1, LEAST, 0, 0, 8);
        w.mark();
        w.item(0, 1, 1, 4);
        return w;
    }

    private static World withoutWord() {
        World w = World.of(THING, BYTES).typed(WORD).things(1, 0).things(1, 1);
        w.refer(0, 0, 1);
        w.row(0, 1, 2);
        w.put(1, 0, 11);
        w.save(0, 0);
        w.word(11, false);
        return w;
    }

    @Says(in = "Terms", value = "all is as it was")
    static void whatCameInAFailedPuttingBackIsNotSeenLater() {
        World w = World.of(WHOLE, BYTES, THING).things(1, 0);
        w.put(0, 0, 5);
        w.row(0, 1, 3);
        w.refer(0, 2, 0);
        w.save(0, 0);
        w.check(0, LEAST, 0, 0, 6);
        due("fails", w.restore(0, 0), OWN);
        due("the next thing", w.thing(0), 1);
        due("has the default", w.at(1, 0), 7);
        due("has no row", w.at(1, 1), NONE);
        due("leads nowhere", w.at(1, 2), NONE);
    }

    // ---- likeness ----

    @Says(in = "Terms", value = "Two THINGS are LIKE, if they are of one TYPE")
    static void likeThingsAreOfOneType() {
        World w = World.of(WHOLE).typed(WHOLE).typed().typed().things(2, 0).things(1, 1).things(1, 2).things(1, 3);
        due("of one type", w.like(0, 1), 1);
        due("of types that look alike", w.like(0, 2), 0);
        due("the other way", w.like(2, 0), 0);
        due("of types without fields", w.like(3, 4), 0);
        due("one of them with itself", w.like(4, 4), 1);
    }

    @Says(in = "Terms", value = "and by their FIELDS: WHOLES and WORDS are the same")
    static void likeWholesAndWords() {
        World w = World.of(WHOLE, WHOLE, WORD, WHOLE, WORD).things(2, 0);
        for (int k = 0; k < 5; k++) {
            w.put(0, k, 3);
            due("field " + k + " is another", w.like(0, 1), 0);
            due("the other way", w.like(1, 0), 0);
            w.put(1, k, 3);
            due("the same", w.like(0, 1), 1);
        }
        w.put(0, 0, LONG_MIN);
        w.put(1, 0, 0);
        due("the highest bit", w.like(0, 1), 0);
        w.put(1, 0, LONG_MIN + 1);
        due("the lowest bit", w.like(0, 1), 0);
        w.put(1, 0, LONG_MIN);
        w.put(0, 4, -1);
        due("a word and none", w.like(0, 1), 0);
    }

    @Says(in = "Terms", value = "ROWS have the same items")
    static void likeRows() {
        for (int lane = BYTES; lane <= LONGS; lane++) {
            World w = World.of(lane).things(2, 0);
            w.row(0, 0, 11);
            due("a row and none", w.like(0, 1), 0);
            due("none and a row", w.like(1, 0), 0);
            w.row(1, 0, 12);
            due("11 and 12 items", w.like(0, 1), 0);
            due("12 and 11 items", w.like(1, 0), 0);
            w.row(0, 0, 12);
            due("the same", w.like(0, 1), 1);
            for (int i : new int[] {0, 11}) {
                w.item(0, 0, i, 1);
                due("item " + i, w.like(0, 1), 0);
                w.item(1, 0, i, 1);
                due("item " + i, w.like(0, 1), 1);
            }
            w.row(0, 0, 0);
            w.row(1, 0, 0);
            due("both empty", w.like(0, 1), 1);
        }
    }

    @Says(in = "Terms", value = "and are shared alike")
    static void likeRowsAreSharedAlike() {
        World w = World.of(THING, BYTES, BYTES).things(4, 0);
        for (int x = 0; x < 4; x++) {
            w.row(x, 1, 1);
            w.row(x, 2, 1);
        }
        due("none shared", w.like(0, 1), 1);
        w.share(0, 2, 0, 1);
        due("shared in one", w.like(0, 1), 0);
        due("shared in the other", w.like(1, 0), 0);
        w.share(1, 1, 1, 2);
        due("shared in both", w.like(0, 1), 1);
        w.share(1, 1, 0, 1);
        w.share(1, 2, 0, 1);
        due("one row in all", w.like(0, 1), 1);
        w.refer(0, 0, 2);
        w.refer(1, 0, 3);
        due("leading on", w.like(0, 1), 1);
        w.share(2, 1, 0, 1);
        due("shared with the next in one", w.like(0, 1), 0);
        w.share(3, 2, 1, 1);
        due("shared with the next otherwise", w.like(0, 1), 0);
        w.row(3, 2, 1);
        w.share(3, 1, 1, 1);
        due("shared with the next in both", w.like(0, 1), 1);
    }

    @Says(in = "Terms", value = "(ROWS likewise.)")
    static void likeRowsAreMetOneByOne() {
        World w = World.of(BYTES, BYTES, BYTES, BYTES).things(2, 0);
        w.row(0, 0, 1);
        w.row(0, 1, 1);
        w.share(1, 0, 0, 0);
        w.share(1, 1, 0, 1);
        due("each its own", w.like(0, 1), 1);
        w.share(1, 0, 0, 1);
        w.share(1, 1, 0, 0);
        due("each the other", w.like(0, 1), 1);
        w.share(0, 2, 0, 0);
        w.share(1, 2, 0, 0);
        due("once the other, once its own", w.like(0, 1), 0);
        w.share(1, 2, 0, 1);
        due("always the other", w.like(0, 1), 1);
        w.share(0, 3, 0, 0);
        w.row(1, 3, 1);
        due("one more that is met with no other", w.like(0, 1), 0);
        due("the other way", w.like(1, 0), 0);
    }

    @Says(in = "Terms", value = "THINGS that they lead to are LIKE in this way")
    static void likeThingsLeadToLikeThings() {
        World w = chain(30, THING, WHOLE);
        w.refer(14, 0, -1);
        due("chains of 15", w.like(0, 15), 1);
        w.put(29, 1, 8);
        due("the last is another", w.like(0, 15), 0);
        w.put(14, 1, 8);
        due("both lasts are", w.like(0, 15), 1);
        due("a shorter one", w.like(1, 15), 0);
        due("a longer one", w.like(15, 1), 0);
        w.refer(29, 0, 0);
        due("one goes on", w.like(0, 15), 0);
        w.refer(14, 0, 15);
        due("one ring, half of it apart", w.like(0, 15), 1);
        w.refer(14, 0, 0);
        w.refer(29, 0, 15);
        due("two rings of 15", w.like(0, 15), 1);
        due("not from the same place", w.like(0, 16), 0);
    }

    @Says(in = "Terms", value = "whichever two are met together once are met together always, and with no other")
    static void likeThingsAreMetOneByOne() {
        World w = World.of(THING, THING).things(8, 0);
        w.refer(0, 0, 1);
        w.refer(0, 1, 1);
        w.refer(2, 0, 3);
        w.refer(2, 1, 4);
        due("one met with two", w.like(0, 2), 0);
        due("two met with one", w.like(2, 0), 0);
        w.refer(0, 1, 5);
        due("two with two", w.like(0, 2), 1);
        w.refer(2, 0, 5);
        w.refer(2, 1, 1);
        due("two with the same two, crosswise", w.like(0, 2), 1);
        w.refer(6, 0, 6);
        w.refer(7, 0, 6);
        due("itself, and one that is itself", w.like(6, 7), 0);
        due("the other way", w.like(7, 6), 0);
        w.refer(7, 0, 7);
        due("each itself", w.like(6, 7), 1);
        w.refer(6, 0, 7);
        w.refer(7, 0, 6);
        due("each the other", w.like(6, 7), 1);
        w.refer(6, 1, 6);
        w.refer(7, 1, 6);
        due("each the other, and one itself", w.like(6, 7), 0);
    }

    @Says(in = "What it is", value = "things that lead to one another in rings")
    static void ringsOfOtherLengthsAreNotLike() {
        World w = World.of(THING).things(12, 0);
        int first = 0;
        for (int length = 1; length < 5; length++) {
            for (int i = 0; i < length; i++) {
                w.refer(first + i, 0, first + (i + 1) % length);
            }
            first += length;
        }
        int[] rings = {0, 1, 3, 6};
        for (int a : rings) {
            for (int b : rings) {
                due("rings at " + a + " and " + b, w.like(a, b), a == b ? 1 : 0);
            }
        }
        due("within a ring of 4", w.like(6, 8), 1);
    }

    @Says(in = "Promise 24", value = "Whether two THINGS are LIKE: 1, 0")
    static void likeWaysOfOneThing() {
        World w = chain(4, THING, BYTES);
        w.save(0, 0);
        w.restore(0, 0);
        for (int x = 0; x < 4; x++) {
            due("what was put back", w.like(x, 4 + x), 1);
        }
        due("is not like the next", w.like(0, 5), 0);
    }
}
