/** For each promise of the document: ordinary inputs, the edges it names, and wrong inputs. */
public final class PromiseTest {
    private static final int NONE = -1, BAD = -2, STATE = -3, FULL = -4;
    private static final int NULL = -11, INDEX = -12, SIZE = -13, CAST = -14, DIVIDE = -15, OWN = -16;
    private static final int WORD_OUT = -17, GONE = -18, LANE_OTHER = -19, SHUT = -20;
    private static final int WHOLE = 0, WORD = 1, THING = 2, BYTES = 3, INTS = 4, LONGS = 5;
    private static final long IAE = Long.MIN_VALUE + 1, ISE = Long.MIN_VALUE + 2, IOOBE = Long.MIN_VALUE + 3;
    private static final int[] WRONG = {-1, -2, Integer.MIN_VALUE, Integer.MAX_VALUE};

    private static int promise;
    private static int asked;
    private static int wrong;

    private static void due(String call, long got, long want) {
        asked++;
        if (got != want) {
            wrong++;
            System.out.println("promise " + promise + ": " + call + " answered " + got + ", due is " + want);
        }
    }

    private static long at(StateRecords s, int x, int k) {
        try {
            return s.at(x, k);
        } catch (IllegalArgumentException e) {
            return IAE;
        } catch (IndexOutOfBoundsException e) {
            return IOOBE;
        }
    }

    private static long itemAt(StateRecords s, int x, int k, int i) {
        try {
            return s.itemAt(x, k, i);
        } catch (IllegalArgumentException e) {
            return IAE;
        } catch (IllegalStateException e) {
            return ISE;
        } catch (IndexOutOfBoundsException e) {
            return IOOBE;
        }
    }

    /** Type 0 with fields 0 WHOLE (name 10, default 7), 1 WORD (11), 2 THING (12), 3 BYTES (13), 4 BYTES (14). */
    private static StateRecords world(int things) {
        StateRecords s = new StateRecords();
        s.type();
        s.field(0, 10, WHOLE, 7);
        s.field(0, 11, WORD, 5);
        s.field(0, 12, THING, 5);
        s.field(0, 13, BYTES, 5);
        s.field(0, 14, BYTES, 5);
        for (int x = 0; x < things; x++) {
            s.thing(0);
        }
        return s;
    }

    /** One type of one field (name 0) of each lane, types 0 .. 5, and a thing of each. */
    private static StateRecords lanes() {
        StateRecords s = new StateRecords();
        for (int lane = 0; lane < 6; lane++) {
            s.type();
            s.field(lane, 0, lane, 0);
            s.thing(lane);
        }
        return s;
    }

    private static void p1NewObject() {
        StateRecords s = new StateRecords();
        for (int what = 0; what < 4; what++) {
            due("count " + what, s.count(what), 0);
        }
        for (int i = 0; i < 4; i++) {
            due("saved records", s.saved(i, 0), 0);
            due("saved rows", s.saved(i, 1), 0);
            due("restore", s.restore(i, 0), NONE);
        }
        due("undo", s.undo(), STATE);
        due("fault", s.fault(0), -9);
        due("thing", s.thing(0), NONE);
        for (int w = 0; w < 16; w++) {
            due("word is in use", s.word(w, true), 1);
        }
        due("NONE", StateRecords.NONE, NONE);
        due("BAD", StateRecords.BAD, BAD);
        due("STATE", StateRecords.STATE, STATE);
        due("FULL", StateRecords.FULL, FULL);
    }

    private static void p2Type() {
        StateRecords s = new StateRecords();
        for (int t = 0; t < 8; t++) {
            due("type", s.type(), t);
            s.thing(t);
            due("its fields", s.told(t, 1), 0);
        }
        due("ninth type", s.type(), FULL);
        due("types", s.count(0), 8);
    }

    private static void p3Field() {
        StateRecords s = new StateRecords();
        s.type();
        s.type();
        s.thing(0);
        s.thing(1);
        due("whole", s.field(0, 0, WHOLE, Long.MIN_VALUE), 0);
        due("its default", at(s, 0, 0), Long.MIN_VALUE);
        due("of the other type none", at(s, 1, 0), IOOBE);
        due("word", s.field(0, 19, WORD, 3), 1);
        due("no word", at(s, 0, 1), NONE);
        due("thing field", s.field(0, 2, THING, 0), 2);
        due("no thing", at(s, 0, 2), NONE);
        due("row field", s.field(0, 3, LONGS, 4), 3);
        due("no row", at(s, 0, 3), NONE);
        s.thing(0);
        due("default of a thing that comes later", at(s, 2, 0), Long.MIN_VALUE);
        due("none of a thing that comes later", at(s, 2, 1), NONE);
        for (int t : new int[] {2, -1, Integer.MIN_VALUE, Integer.MAX_VALUE}) {
            due("type " + t, s.field(t, 99, 99, 0), NONE);
        }
        for (int name : new int[] {-1, 20, 0, 19, Integer.MIN_VALUE, Integer.MAX_VALUE}) {
            due("name " + name, s.field(0, name, WHOLE, 0), BAD);
        }
        for (int lane : new int[] {-1, 6, Integer.MIN_VALUE, Integer.MAX_VALUE}) {
            due("lane " + lane, s.field(0, 7, lane, 0), BAD);
        }
        s.mark();
        due("with a mark", s.field(0, 7, WHOLE, 0), STATE);
        due("bad name with a mark", s.field(0, 0, WHOLE, 0), BAD);
        s.undo();
        due("fifth", s.field(0, 7, WHOLE, 1), 4);
        due("sixth", s.field(0, 8, WHOLE, 1), FULL);
        due("bad name when full", s.field(0, 7, WHOLE, 1), BAD);
        due("bad lane when full", s.field(0, 8, 6, 1), BAD);
        s.mark();
        due("with a mark when full", s.field(0, 8, WHOLE, 1), STATE);
        due("same name in another type", new StateRecords().field(0, 0, 0, 0), NONE);
        s.undo();
        due("same name in type 1", s.field(1, 0, WHOLE, 1), 0);
    }

    private static void p4Drop() {
        StateRecords s = world(2);
        s.put(0, 0, 1);
        s.put(0, 1, 2);
        s.refer(0, 2, 1);
        s.row(0, 3, 3);
        s.row(0, 4, 4);
        s.shut(0, 2, true);
        s.check(0, 4, 0, 0, 1);
        due("type", s.drop(1, 0), NONE);
        due("field", s.drop(0, 5), NONE);
        due("field below 0", s.drop(0, -1), NONE);
        s.mark();
        due("with a mark", s.drop(0, 0), STATE);
        due("no field with a mark", s.drop(0, 5), NONE);
        s.undo();
        due("drop", s.drop(0, 1), 4);
        due("whole", at(s, 0, 0), 1);
        due("thing comes down", at(s, 0, 1), 1);
        due("row comes down", at(s, 0, 2), 3);
        due("last row comes down", at(s, 0, 3), 4);
        due("no fifth", at(s, 0, 4), IOOBE);
        due("shut comes down", s.shut(0, 1, false), 1);
        due("check stays", s.judge(0), 1);
        due("drop first", s.drop(0, 0), 3);
        due("check looks at another field now", s.judge(0), CAST);
        due("drop last", s.drop(0, 2), 2);
        due("new field", s.field(0, 11, BYTES, 0), 2);
        due("has no old row", at(s, 0, 2), NONE);
        due("is not shut", s.shut(0, 2, true), 0);
        due("drop a shut one", s.drop(0, 2), 2);
        due("it comes again", s.field(0, 11, BYTES, 0), 2);
        due("and is not shut", s.shut(0, 2, false), 0);
        due("things of another type keep theirs", otherTypeKeeps(), 5);
        due("defaults come down", defaultAfterDrop(), 22);
    }

    private static long otherTypeKeeps() {
        StateRecords s = world(1);
        s.type();
        s.field(1, 0, WHOLE, 5);
        s.field(1, 1, WHOLE, 6);
        s.thing(1);
        s.drop(0, 0);
        return at(s, 1, 0);
    }

    private static long defaultAfterDrop() {
        StateRecords s = new StateRecords();
        s.type();
        s.field(0, 0, WHOLE, 11);
        s.field(0, 1, WHOLE, 22);
        s.drop(0, 0);
        return at(s, s.thing(0), 0);
    }

    private static void p5Shut() {
        StateRecords s = world(1);
        due("on", s.shut(0, 4, true), 0);
        due("on again", s.shut(0, 4, true), 1);
        due("shut", s.save(0, 0), SHUT);
        due("off", s.shut(0, 4, false), 1);
        due("off again", s.shut(0, 4, false), 0);
        due("not shut", s.save(0, 0), 1);
        due("field", s.shut(0, 5, true), NONE);
        due("type", s.shut(1, 0, true), NONE);
        for (int n : WRONG) {
            due("field " + n, s.shut(0, n, true), NONE);
            due("type " + n, s.shut(n, 0, true), NONE);
        }
        s.mark();
        due("with a mark", s.shut(0, 4, true), 0);
    }

    private static void p6Check() {
        StateRecords s = world(1);
        due("type", s.check(1, 9, 9, 9, 0), NONE);
        for (int n : WRONG) {
            due("type " + n, s.check(n, 0, 0, 0, 0), NONE);
            due("kind " + n, s.check(0, n, 0, 0, 0), BAD);
            due("a " + n, s.check(0, 0, n, 0, 0), BAD);
            due("b " + n, s.check(0, 0, 0, n, 0), BAD);
        }
        due("kind 6", s.check(0, 6, 0, 0, 0), BAD);
        due("a 5", s.check(0, 0, 5, 0, 0), BAD);
        due("b 5", s.check(0, 0, 0, 5, 0), BAD);
        due("b 5 that is not looked at", s.check(0, 4, 0, 5, 0), BAD);
        for (int c = 1; c <= 4; c++) {
            due("check", s.check(0, 4, 0, 4, 7), c);
        }
        due("fifth", s.check(0, 4, 0, 0, 7), FULL);
        due("bad when full", s.check(0, 6, 0, 0, 7), BAD);
        due("judged", s.judge(0), 1);
        due("a field that there is not", s.unchecked(0), 4);
        s.drop(0, 4);
        due("is taken", s.check(0, 2, 4, 0, 0), 1);
        due("and is CAST", s.judge(0), CAST);
    }

    private static void p7Unchecked() {
        StateRecords s = world(1);
        due("none", s.unchecked(0), 0);
        s.check(0, 4, 0, 0, 100);
        s.check(0, 4, 0, 0, 100);
        due("fails", s.judge(0), OWN);
        due("two", s.unchecked(0), 2);
        due("fails no more", s.judge(0), 1);
        due("again", s.unchecked(0), 0);
        due("first anew", s.check(0, 4, 0, 0, 0), 1);
        due("type", s.unchecked(1), NONE);
        due("type below 0", s.unchecked(-1), NONE);
    }

    private static void p8Word() {
        StateRecords s = world(1);
        s.put(0, 1, 15);
        due("out", s.word(15, false), 1);
        due("out again", s.word(15, false), 0);
        due("thing keeps it", at(s, 0, 1), 15);
        due("put", s.put(0, 1, 15), WORD_OUT);
        due("in", s.word(15, true), 0);
        due("put again", s.put(0, 1, 15), 1);
        due("word 0", s.word(0, false), 1);
        due("word 16", s.word(16, true), NONE);
        for (int w : WRONG) {
            due("word " + w, s.word(w, false), NONE);
        }
    }

    private static void p9Thing() {
        StateRecords s = world(0);
        s.check(0, 4, 0, 0, 100);
        for (int x = 0; x < 30; x++) {
            due("thing", s.thing(0), x);
        }
        due("31st", s.thing(0), FULL);
        due("no type when full", s.thing(1), NONE);
        due("no type below", s.thing(-1), NONE);
        due("whole", at(s, 29, 0), 7);
        for (int k = 1; k < 5; k++) {
            due("none", at(s, 29, k), NONE);
        }
        s.put(0, 0, 1);
        s.put(0, 1, 1);
        s.refer(0, 2, 1);
        s.row(0, 3, 1);
        s.forget();
        due("anew", s.thing(0), 0);
        due("whole anew", at(s, 0, 0), 7);
        for (int k = 1; k < 5; k++) {
            due("none anew", at(s, 0, k), NONE);
        }
    }

    private static void p10Put() {
        StateRecords s = world(1);
        for (long v : new long[] {Long.MIN_VALUE, Long.MAX_VALUE, -1, 0}) {
            due("whole", s.put(0, 0, v), 1);
            due("at", at(s, 0, 0), v);
        }
        for (long v : new long[] {0, 15, -1}) {
            due("word", s.put(0, 1, v), 1);
            due("at", at(s, 0, 1), v);
        }
        for (long v : new long[] {16, -2, Long.MIN_VALUE, Long.MAX_VALUE, 1L << 32}) {
            due("word " + v, s.put(0, 1, v), WORD_OUT);
        }
        s.word(3, false);
        due("word out of use", s.put(0, 1, 3), WORD_OUT);
        due("it stays", at(s, 0, 1), NONE);
        for (int k = 2; k < 5; k++) {
            due("lane", s.put(0, k, 99), CAST);
        }
        due("thing", s.put(1, 0, 0), NONE);
        due("field", s.put(0, 5, 0), NONE);
        for (int n : WRONG) {
            due("thing " + n, s.put(n, 0, 0), NONE);
            due("field " + n, s.put(0, n, 0), NONE);
        }
    }

    private static void p11Refer() {
        StateRecords s = world(2);
        due("refer", s.refer(0, 2, 1), 1);
        due("at", at(s, 0, 2), 1);
        due("itself", s.refer(0, 2, 0), 1);
        due("at itself", at(s, 0, 2), 0);
        due("none", s.refer(0, 2, -1), 1);
        due("at none", at(s, 0, 2), NONE);
        due("y", s.refer(0, 2, 2), NONE);
        due("y below", s.refer(0, 2, -2), NONE);
        due("y ahead of CAST", s.refer(0, 0, 2), NONE);
        due("thing", s.refer(2, 2, 0), NONE);
        due("field", s.refer(0, 5, 0), NONE);
        for (int k : new int[] {0, 1, 3, 4}) {
            due("lane", s.refer(0, k, 1), CAST);
            due("lane with none", s.refer(0, k, -1), CAST);
        }
    }

    private static void p12Row() {
        StateRecords s = lanes();
        for (int x = 3; x < 6; x++) {
            due("twelve", s.row(x, 0, 12), 1);
            due("items", at(s, x, 0), 12);
            due("item", s.item(x, 0, 11, 5), 1);
            due("new", s.row(x, 0, 12), 1);
            due("item is 0", itemAt(s, x, 0, 11), 0);
            due("empty", s.row(x, 0, 0), 1);
            due("no items", at(s, x, 0), 0);
            due("none", s.row(x, 0, -1), 1);
            due("no row", at(s, x, 0), NONE);
            due("13", s.row(x, 0, 13), BAD);
            due("-2", s.row(x, 0, -2), SIZE);
            due("least", s.row(x, 0, Integer.MIN_VALUE), SIZE);
            due("most", s.row(x, 0, Integer.MAX_VALUE), BAD);
            due("stays", at(s, x, 0), NONE);
        }
        for (int x = 0; x < 3; x++) {
            due("lane", s.row(x, 0, 1), CAST);
            due("CAST ahead of SIZE", s.row(x, 0, -2), CAST);
            due("BAD ahead of CAST", s.row(x, 0, 13), BAD);
        }
        due("thing", s.row(6, 0, 13), NONE);
        due("field", s.row(3, 1, 13), NONE);
    }

    private static void p13Share() {
        StateRecords s = world(2);
        s.row(0, 3, 2);
        due("share", s.share(1, 4, 0, 3), 1);
        s.item(1, 4, 0, 9);
        due("one row", itemAt(s, 0, 3, 0), 9);
        due("none", s.share(0, 3, 0, 4), 1);
        due("no row", at(s, 0, 3), NONE);
        due("the other keeps it", at(s, 1, 4), 2);
        due("itself", s.share(1, 4, 1, 4), 1);
        due("stays", itemAt(s, 1, 4, 0), 9);
        due("row anew", s.row(1, 4, 1), 1);
        for (int[] c : new int[][] {{2, 3, 0, 3}, {0, 5, 0, 3}, {0, 3, 2, 3}, {0, 3, 0, 5}, {-1, 3, 0, 3},
                {0, -1, 0, 3}, {0, 3, -1, 3}, {0, 3, 0, -1}, {0, 0, 0, 5}}) {
            due("none such", s.share(c[0], c[1], c[2], c[3]), NONE);
        }
        due("to a whole", s.share(0, 0, 0, 3), CAST);
        due("from a whole", s.share(0, 3, 0, 0), CAST);
        due("whole to whole", s.share(0, 0, 1, 0), CAST);
        StateRecords l = lanes();
        for (int x = 0; x < 6; x++) {
            for (int y = 0; y < 6; y++) {
                due("lanes " + x + " " + y, l.share(x, 0, y, 0), x == y && x >= 3 ? 1 : CAST);
            }
        }
    }

    private static void p14Item() {
        StateRecords s = lanes();
        for (int x = 3; x < 6; x++) {
            due("NULL", s.item(x, 0, 0, 0), NULL);
            s.row(x, 0, 2);
            due("item", s.item(x, 0, 1, 0x1_8000_0080L), 1);
            due("INDEX", s.item(x, 0, 2, 0), INDEX);
            for (int n : WRONG) {
                due("INDEX " + n, s.item(x, 0, n, 0), INDEX);
            }
            due("item 0 stays", itemAt(s, x, 0, 0), 0);
        }
        due("byte", itemAt(s, 3, 0, 1), -128);
        due("int", itemAt(s, 4, 0, 1), -2147483520);
        due("long", itemAt(s, 5, 0, 1), 0x1_8000_0080L);
        s.row(3, 0, 0);
        due("empty", s.item(3, 0, 0, 0), INDEX);
        for (int x = 0; x < 3; x++) {
            due("CAST", s.item(x, 0, 99, 0), CAST);
        }
        due("thing", s.item(6, 0, 0, 0), NONE);
        due("field", s.item(3, 1, 0, 0), NONE);
    }

    private static void p15At() {
        StateRecords s = world(2);
        s.row(1, 3, 5);
        due("whole", at(s, 1, 0), 7);
        due("row", at(s, 1, 3), 5);
        due("no row", at(s, 1, 4), NONE);
        due("field", at(s, 0, 5), IOOBE);
        due("thing", at(s, 2, 0), IAE);
        due("both", at(s, 2, 5), IAE);
        for (int n : WRONG) {
            due("field " + n, at(s, 0, n), IOOBE);
            due("thing " + n, at(s, n, 0), IAE);
        }
    }

    private static void p16ItemAt() {
        StateRecords s = world(1);
        s.row(0, 3, 2);
        s.item(0, 3, 1, -3);
        due("item", itemAt(s, 0, 3, 1), -3);
        due("item 2", itemAt(s, 0, 3, 2), IOOBE);
        due("no row", itemAt(s, 0, 4, 2), ISE);
        for (int k = 0; k < 3; k++) {
            due("lane", itemAt(s, 0, k, 99), ISE);
        }
        due("field", itemAt(s, 0, 5, 0), IOOBE);
        due("thing", itemAt(s, 1, 9, 9), IAE);
        for (int n : WRONG) {
            due("item " + n, itemAt(s, 0, 3, n), IOOBE);
            due("field " + n, itemAt(s, 0, n, 0), IOOBE);
            due("thing " + n, itemAt(s, n, 3, 0), IAE);
        }
    }

    private static void p17Forget() {
        StateRecords s = world(3);
        s.save(0, 0);
        s.mark();
        due("with a mark", s.forget(), STATE);
        due("they stay", s.count(1), 3);
        s.undo();
        due("forget", s.forget(), 3);
        due("gone", s.count(1), 0);
        due("at", at(s, 0, 0), IAE);
        due("save stays", s.saved(0, 0), 1);
        due("types stay", s.count(0), 1);
        due("again", s.forget(), 0);
        due("restore", s.restore(0, 0), 0);
    }

    private static void p18Told() {
        StateRecords s = world(1);
        s.type();
        s.thing(1);
        due("type", s.told(0, 0), 0);
        due("fields", s.told(0, 1), 5);
        due("type", s.told(1, 0), 1);
        due("fields", s.told(1, 1), 0);
        due("what", s.told(0, 2), BAD);
        due("what", s.told(0, -1), BAD);
        due("thing", s.told(2, 9), NONE);
        due("thing", s.told(-1, 0), NONE);
    }

    private static long judged(StateRecords s, int kind, int a, int b, long v) {
        s.unchecked(0);
        s.check(0, kind, a, b, v);
        return s.judge(0);
    }

    private static void p19Judge() {
        StateRecords s = world(2);
        due("none", s.judge(0), 1);
        due("thing", s.judge(2), NONE);
        due("thing", s.judge(-1), NONE);
        s.drop(0, 4);
        s.field(0, 15, WHOLE, 2);
        due("divides", judged(s, 0, 0, 4, 0), 1);
        s.put(0, 4, 0);
        due("by 0", judged(s, 0, 0, 4, 0), DIVIDE);
        due("0 by 7", judged(s, 0, 4, 0, 0), 1);
        s.put(0, 0, Long.MIN_VALUE);
        s.put(0, 4, -1);
        due("least by -1", judged(s, 0, 0, 4, 0), 1);
        for (int k = 1; k < 4; k++) {
            due("divides CAST a", judged(s, 0, k, 0, 0), CAST);
            due("divides CAST b", judged(s, 0, 0, k, 0), CAST);
        }
        due("meets none", judged(s, 1, 2, 0, 0), NULL);
        s.type();
        s.field(1, 12, WHOLE, 0);
        s.field(1, 13, THING, 0);
        s.thing(1);
        s.refer(0, 2, 2);
        due("meets", judged(s, 1, 2, 0, 1), 1);
        due("meets another", judged(s, 1, 2, 0, 0), CAST);
        due("meets 1 beyond int", judged(s, 1, 2, 0, 1 + (1L << 32)), CAST);
        due("leads: name of another lane", judged(s, 5, 2, 0, 0), CAST);
        s.drop(1, 0);
        due("leads: no such name", judged(s, 5, 2, 0, 0), CAST);
        s.field(1, 12, THING, 0);
        due("leads: the second", judged(s, 5, 2, 0, 0), NULL);
        s.refer(2, 1, 2);
        due("leads", judged(s, 5, 2, 0, 0), 1);
        s.refer(0, 2, -1);
        due("leads: the first", judged(s, 5, 2, 0, 0), NULL);
        judgeHas(s);
        judgeWholes(s);
        s.unchecked(0);
        s.check(0, 4, 0, 0, 100);
        s.check(0, 0, 0, 1, 0);
        s.put(0, 0, 100);
        due("the second one", s.judge(0), CAST);
        s.put(0, 0, 99);
        due("the first one", s.judge(0), OWN);
        due("no fault is told", s.fault(0), -9);
    }

    private static void judgeHas(StateRecords s) {
        s.put(0, 4, 99);
        due("has CAST ahead of NULL", judged(s, 2, 3, 1, 0), CAST);
        due("has NULL", judged(s, 2, 3, 4, 0), NULL);
        s.row(0, 3, 2);
        s.item(0, 3, 1, 5);
        for (long i : new long[] {2, -1, 99, (1L << 32) + 1, Long.MIN_VALUE, Long.MAX_VALUE}) {
            s.put(0, 4, i);
            due("has INDEX " + i, judged(s, 2, 3, 4, 0), INDEX);
        }
        s.put(0, 4, 1);
        due("has", judged(s, 2, 3, 4, 4), 1);
        due("has not above", judged(s, 2, 3, 4, 5), OWN);
        s.put(0, 4, 0);
        due("has item 0", judged(s, 2, 3, 4, -1), 1);
        for (int k : new int[] {0, 1, 2, 4}) {
            due("has CAST a", judged(s, 2, k, 4, 0), CAST);
        }
        for (int k = 1; k < 4; k++) {
            due("has CAST b", judged(s, 2, 3, k, 0), CAST);
        }
    }

    private static void judgeWholes(StateRecords s) {
        long[] lengths = {0, 12, 13, -1, Long.MIN_VALUE, Long.MAX_VALUE, 1L << 32};
        long[] answers = {1, 1, OWN, SIZE, SIZE, OWN, OWN};
        for (int i = 0; i < lengths.length; i++) {
            s.put(0, 0, lengths[i]);
            due("holds " + lengths[i], judged(s, 3, 0, 3, 0), answers[i]);
        }
        s.put(0, 0, -5);
        due("least", judged(s, 4, 0, 3, -5), 1);
        due("not least", judged(s, 4, 0, 3, -4), OWN);
        for (int k = 1; k < 4; k++) {
            due("holds CAST", judged(s, 3, k, 0, 0), CAST);
            due("least CAST", judged(s, 4, k, 0, Long.MIN_VALUE), CAST);
        }
        for (int k : new int[] {0, 1, 3, 4}) {
            due("meets CAST", judged(s, 1, k, 0, 0), CAST);
            due("leads CAST", judged(s, 5, k, 0, 0), CAST);
        }
    }

    private static void p20Save() {
        StateRecords s = world(5);
        due("one", s.save(0, 0), 1);
        s.refer(0, 2, 0);
        due("itself", s.save(0, 0), 1);
        s.refer(0, 2, 3);
        s.refer(3, 2, 1);
        s.refer(1, 2, 0);
        due("ring", s.save(0, 0), 3);
        due("ring from 1", s.save(3, 1), 3);
        s.row(3, 3, 1);
        s.share(1, 4, 3, 3);
        due("in place", s.save(0, 3), 3);
        due("one row", s.saved(0, 1), 1);
        due("other saves stay", s.saved(3, 1), 0);
        for (int n : new int[] {4, -1, Integer.MIN_VALUE, Integer.MAX_VALUE}) {
            due("save " + n, s.save(n, 0), NONE);
        }
        due("thing", s.save(0, 5), NONE);
        due("thing", s.save(0, -1), NONE);
        s.type();
        s.field(1, 5, WHOLE, 0);
        s.field(1, 6, WHOLE, 0);
        s.shut(1, 1, true);
        s.thing(1);
        s.refer(1, 2, 5);
        due("shut", s.save(0, 3), SHUT);
        due("record", s.fault(0), 2);
        due("name", s.fault(1), 6);
        due("no check", s.fault(2), NONE);
        due("the save stays", s.saved(0, 0), 3);
        due("not come to", s.save(1, 2), 1);
        s.save(2, 2);
        s.put(2, 0, 1234);
        s.item(3, 3, 0, 77);
        due("items are copied", itemAt(s, s.restore(0, 0), 3, 0), 0);
        due("wholes are copied", at(s, s.restore(2, 0), 0), 7);
        recordsGoByRecordsThenFields();
    }

    private static void recordsGoByRecordsThenFields() {
        StateRecords s = new StateRecords();
        s.type();
        s.field(0, 0, THING, 0);
        s.field(0, 1, THING, 0);
        s.field(0, 2, WHOLE, 0);
        for (int x = 0; x < 5; x++) {
            s.thing(0);
            s.put(x, 2, x);
        }
        s.refer(0, 0, 3);
        s.refer(0, 1, 1);
        s.refer(3, 0, 4);
        s.refer(1, 1, 2);
        s.refer(1, 0, 0);
        due("records", s.save(0, 0), 5);
        due("first", s.restore(0, 0), 5);
        long[] order = {0, 3, 1, 4, 2};
        for (int r = 0; r < 5; r++) {
            due("record " + r, at(s, 5 + r, 2), order[r]);
        }
        due("leads back", at(s, 7, 0), 5);
    }

    private static void p21Saved() {
        StateRecords s = world(2);
        s.refer(0, 2, 1);
        s.row(0, 4, 2);
        s.row(1, 3, 2);
        s.share(1, 4, 0, 4);
        s.save(1, 0);
        due("records", s.saved(1, 0), 2);
        due("rows", s.saved(1, 1), 2);
        due("nothing", s.saved(0, 0), 0);
        due("what", s.saved(1, 2), BAD);
        due("what", s.saved(0, -1), BAD);
        for (int n : new int[] {4, -1, Integer.MIN_VALUE, Integer.MAX_VALUE}) {
            due("save " + n, s.saved(n, 9), NONE);
        }
    }

    private static void p22Restore() {
        StateRecords s = world(1);
        s.put(0, 0, 70);
        s.put(0, 1, 4);
        s.refer(0, 2, 0);
        s.row(0, 3, 2);
        s.item(0, 3, 1, -7);
        s.share(0, 4, 0, 3);
        s.save(2, 0);
        for (int n : new int[] {4, -1, 0, Integer.MIN_VALUE, Integer.MAX_VALUE}) {
            due("save " + n, s.restore(n, 9), NONE);
        }
        for (int n : new int[] {4, -1, Integer.MIN_VALUE, Integer.MAX_VALUE}) {
            due("rule " + n, s.restore(2, n), BAD);
        }
        for (int rule = 0; rule < 4; rule++) {
            int x = s.restore(2, rule);
            due("restore", x, rule + 1);
            due("whole", at(s, x, 0), 70);
            due("word", at(s, x, 1), 4);
            due("thing", at(s, x, 2), x);
            due("row", itemAt(s, x, 3, 1), -7);
            s.item(x, 4, 1, 1);
            due("shared row", itemAt(s, x, 3, 1), 1);
            due("not the old one", itemAt(s, 0, 3, 1), -7);
        }
        for (int x = 5; x < 30; x++) {
            s.thing(0);
        }
        s.drop(0, 0);
        due("FULL ahead of FAILED", s.restore(2, 0), FULL);
        due("BAD ahead of FULL", s.restore(2, 4), BAD);
        restoreIsFullByRecords();
        restoreOfChangedTypes();
        restoreIntoLanes();
        restoreWords();
        restoreWidens();
        restoreWholeOrNot();
    }

    private static void restoreIsFullByRecords() {
        StateRecords s = world(30);
        s.refer(0, 2, 1);
        s.save(0, 0);
        s.forget();
        for (int x = 0; x < 28; x++) {
            s.thing(0);
        }
        due("just so many", s.restore(0, 0), 28);
        s.forget();
        for (int x = 0; x < 29; x++) {
            s.thing(0);
        }
        due("one too many", s.restore(0, 0), FULL);
        due("as it was", s.count(1), 29);
    }

    private static void restoreOfChangedTypes() {
        StateRecords s = world(1);
        s.put(0, 0, 70);
        s.save(0, 0);
        s.drop(0, 0);
        s.drop(0, 3);
        s.field(0, 1, WHOLE, 44);
        due("gone", s.restore(0, 2), GONE);
        due("the first one", s.fault(1), 10);
        due("left out", s.restore(0, 1), 1);
        due("the default", at(s, 1, 3), 44);
        s.field(0, 10, WHOLE, 0);
        due("the next one", s.restore(0, 0), GONE);
        due("its name", s.fault(1), 14);
        due("left out again", s.restore(0, 3), 2);
        due("by its name", at(s, 2, 4), 70);
        s.shut(0, 4, true);
        due("shut fields are put back", s.restore(0, 1), 3);
    }

    private static void restoreIntoLanes() {
        for (int from = 0; from < 6; from++) {
            for (int to = 0; to < 6; to++) {
                StateRecords s = new StateRecords();
                s.type();
                s.field(0, 3, from, 9);
                s.thing(0);
                s.save(0, 0);
                s.drop(0, 0);
                s.field(0, 3, to, 8);
                boolean may = from == to || (from == WORD && to == WHOLE) || (from >= BYTES && to > from);
                due("from " + from + " to " + to, s.restore(0, 3), may ? 1 : LANE_OTHER);
                if (may) {
                    due("value", at(s, 1, 0), from == WHOLE ? 9 : NONE);
                } else {
                    due("name", s.fault(1), 3);
                }
            }
        }
    }

    private static void restoreWords() {
        StateRecords s = world(1);
        s.put(0, 1, 0);
        s.save(0, 0);
        s.word(0, false);
        due("out of use", s.restore(0, 1), WORD_OUT);
        due("its name", s.fault(1), 11);
        due("by a rule", s.restore(0, 2), 1);
        due("none", at(s, 1, 1), NONE);
        s.drop(0, 1);
        due("gone is left out", s.restore(0, 1), 2);
        s.field(0, 11, WHOLE, 5);
        s.word(0, true);
        due("a word comes to a whole", s.restore(0, 0), 3);
        due("its number", at(s, 3, 4), 0);
        s.put(0, 4, 3);
        s.word(1, false);
        s.save(1, 0);
        due("other words do not matter", s.restore(1, 0), 4);
    }

    private static void restoreWidens() {
        StateRecords s = new StateRecords();
        s.type();
        for (int k = 0; k < 5; k++) {
            s.field(0, k, BYTES, 0);
        }
        s.thing(0);
        s.row(0, 0, 12);
        s.item(0, 0, 11, -128);
        for (int k = 1; k < 5; k++) {
            s.share(0, k, 0, 0);
        }
        s.save(0, 0);
        for (int k = 0; k < 5; k++) {
            s.drop(0, 0);
        }
        int[] lanes = {BYTES, INTS, LONGS, INTS, LONGS};
        for (int k = 0; k < 5; k++) {
            s.field(0, k, lanes[k], 0);
        }
        due("restore", s.restore(0, 0), 1);
        for (int k = 0; k < 5; k++) {
            due("widened", itemAt(s, 1, k, 11), -128);
        }
        s.item(1, 1, 0, 70000);
        s.item(1, 2, 0, 1L << 40);
        due("BYTES", itemAt(s, 1, 0, 0), 0);
        due("INTS share", itemAt(s, 1, 3, 0), 70000);
        due("LONGS share", itemAt(s, 1, 4, 0), 1L << 40);
        due("rows of it now", s.save(1, 1) * 10 + s.saved(1, 1), 13);
    }

    private static void restoreWholeOrNot() {
        StateRecords s = world(2);
        s.refer(0, 2, 1);
        s.put(1, 0, 3);
        s.save(0, 0);
        s.check(0, 4, 0, 0, 3);
        s.check(0, 4, 0, 0, 4);
        due("second record's second check", s.restore(0, 0), OWN);
        due("record", s.fault(0), 1);
        due("name", s.fault(1), NONE);
        due("check", s.fault(2), 1);
        due("all is as it was", s.count(1), 2);
        due("and next", s.thing(0), 2);
        s.word(9, false);
        s.put(1, 1, 8);
        s.save(0, 0);
        s.word(8, false);
        s.check(0, 4, 0, 0, 100);
        due("faults of fields ahead of checks", s.restore(0, 0), WORD_OUT);
        due("record", s.fault(0), 1);
        due("check", s.fault(2), NONE);
        due("as it was", s.count(1), 3);
        s.unchecked(0);
        s.check(0, 5, 2, 0, 0);
        s.word(8, true);
        due("checks see the new things", s.restore(0, 0), NULL);
        s.refer(1, 2, 0);
        s.save(0, 0);
        due("ring", s.restore(0, 0), 3);
        s.mark();
        due("with a mark", s.restore(0, 0), 5);
        due("is not noted", s.undo(), 0);
        due("and stays", s.count(1), 7);
    }

    private static void p23Fault() {
        StateRecords s = world(2);
        for (int what = 0; what < 3; what++) {
            due("before", s.fault(what), -9);
        }
        due("put fails", s.put(0, 2, 0), CAST);
        due("save is refused", s.save(9, 0), NONE);
        due("restore is refused", s.restore(0, 0), NONE);
        due("no fault of theirs", s.fault(0), -9);
        s.refer(1, 2, 0);
        s.save(0, 1);
        s.check(0, 4, 0, 0, 7);
        s.check(0, 1, 2, 0, 0);
        due("check", s.restore(0, 0), NULL);
        due("record", s.fault(0), 1);
        due("name", s.fault(1), NONE);
        due("check", s.fault(2), 1);
        due("what", s.fault(3), BAD);
        due("what", s.fault(-1), BAD);
        s.shut(0, 3, true);
        due("shut", s.save(0, 0), SHUT);
        due("record", s.fault(0), 0);
        due("name", s.fault(1), 13);
        due("check", s.fault(2), NONE);
        s.shut(0, 3, false);
        s.unchecked(0);
        due("fine", s.restore(0, 0), 2);
        due("stays", s.fault(1), 13);
        due("judge tells none", s.check(0, 4, 0, 0, 99) + s.judge(0), 1 + OWN);
        due("still", s.fault(1), 13);
    }

    private static void p24Like() {
        StateRecords s = world(6);
        due("itself", s.like(0, 0), 1);
        due("two", s.like(0, 1), 1);
        s.put(1, 0, 8);
        due("wholes", s.like(0, 1), 0);
        s.put(1, 0, 7);
        s.put(1, 1, 0);
        due("words", s.like(0, 1), 0);
        s.put(0, 1, 0);
        due("words alike", s.like(0, 1), 1);
        likeRows(s);
        likeThings();
        due("thing", s.like(0, 6), NONE);
        due("thing", s.like(6, 0), NONE);
        due("thing", s.like(-1, 0), NONE);
        s.type();
        s.type();
        due("types", s.like(s.thing(1), s.thing(2)), 0);
        s.shut(0, 0, true);
        due("shut or not", s.like(2, 3), 1);
    }

    private static void likeRows(StateRecords s) {
        s.row(0, 3, 0);
        due("a row and none", s.like(0, 1), 0);
        due("none and a row", s.like(1, 0), 0);
        s.row(1, 3, 1);
        due("lengths", s.like(0, 1), 0);
        s.row(0, 3, 1);
        due("rows", s.like(0, 1), 1);
        s.item(0, 3, 0, 5);
        due("items", s.like(0, 1), 0);
        s.share(1, 3, 0, 3);
        due("one row for both", s.like(0, 1), 1);
        s.share(0, 4, 0, 3);
        s.row(1, 4, 1);
        s.item(1, 4, 0, 5);
        due("shared by one", s.like(0, 1), 0);
        due("shared by the other", s.like(1, 0), 0);
        s.share(1, 4, 1, 3);
        due("shared by both", s.like(0, 1), 1);
    }

    private static void likeThings() {
        StateRecords s = new StateRecords();
        s.type();
        s.field(0, 0, THING, 0);
        s.field(0, 1, THING, 0);
        for (int x = 0; x < 9; x++) {
            s.thing(0);
        }
        s.refer(0, 0, 1);
        due("a thing and none", s.like(0, 2), 0);
        due("none and a thing", s.like(2, 0), 0);
        s.refer(1, 0, 2);
        s.refer(2, 0, 0);
        due("along a ring", s.like(0, 1), 1);
        s.refer(3, 0, 4);
        s.refer(4, 0, 3);
        due("rings of other lengths", s.like(0, 3), 0);
        due("rings of other lengths", s.like(3, 0), 0);
        s.refer(5, 0, 6);
        s.refer(5, 1, 6);
        s.refer(7, 0, 6);
        s.refer(7, 1, 8);
        due("one met with two", s.like(5, 7), 0);
        due("two met with one", s.like(7, 5), 0);
        s.refer(5, 1, 8);
        due("the same things", s.like(5, 7), 1);
        s.refer(5, 1, 5);
        s.refer(7, 1, 7);
        due("each itself", s.like(5, 7), 1);
        s.refer(7, 1, 5);
        due("one leads to the other", s.like(5, 7), 0);
    }

    private static void p25Differs() {
        StateRecords s = world(3);
        s.refer(0, 2, 1);
        s.row(0, 3, 1);
        s.share(1, 4, 0, 3);
        due("nothing in it", s.differs(0, 0), BAD);
        s.save(0, 0);
        due("alike", s.differs(0, 0), NONE);
        due("save", s.differs(4, 0), BAD);
        due("save", s.differs(-1, 0), BAD);
        due("thing", s.differs(0, 3), BAD);
        due("thing", s.differs(0, -1), BAD);
        s.shut(0, 0, true);
        due("shut", s.differs(0, 0), NONE);
        due("tells no fault", s.fault(0), -9);
        s.put(1, 1, 3);
        due("word", s.differs(0, 0), 111);
        s.put(0, 1, 3);
        due("the first", s.differs(0, 0), 11);
        s.put(0, 1, -1);
        s.put(1, 1, -1);
        s.item(0, 3, 0, 1);
        due("items", s.differs(0, 0), 13);
        s.item(0, 3, 0, 0);
        s.row(1, 4, 1);
        due("row's number", s.differs(0, 0), 114);
        s.share(1, 4, 0, 3);
        s.row(0, 3, 2);
        due("row's length", s.differs(0, 0), 13);
        s.share(0, 3, 1, 4);
        s.refer(1, 2, 2);
        due("field that leads on", s.differs(0, 0), 112);
        s.refer(1, 2, 1);
        due("another record", s.differs(0, 0), 112);
        s.refer(1, 2, -1);
        s.refer(0, 2, -1);
        due("leads nowhere", s.differs(0, 0), 12);
        s.refer(0, 2, 1);
        due("alike again", s.differs(0, 0), NONE);
        differsByShape(s);
    }

    private static void differsByShape(StateRecords s) {
        s.type();
        int y = s.thing(1);
        due("type", s.differs(0, y), 99);
        s.refer(0, 2, y);
        due("type of record 1", s.differs(0, 0), 199);
        s.refer(0, 2, 1);
        s.drop(0, 4);
        due("fewer fields", s.differs(0, 0), 99);
        s.field(0, 15, BYTES, 0);
        due("names", s.differs(0, 0), 99);
        s.drop(0, 4);
        s.field(0, 14, INTS, 0);
        due("lanes", s.differs(0, 0), 99);
        StateRecords d = new StateRecords();
        d.type();
        d.field(0, 4, THING, 0);
        d.field(0, 5, WHOLE, 0);
        d.thing(0);
        d.save(0, 0);
        d.drop(0, 0);
        d.field(0, 4, THING, 0);
        due("order of names", d.differs(0, 0), 99);
    }

    private static void p26Mark() {
        StateRecords s = world(1);
        for (int m = 1; m <= 4; m++) {
            due("mark", s.mark(), m);
            due("count", s.count(2), m);
        }
        due("fifth", s.mark(), FULL);
        s.undo();
        due("fourth anew", s.mark(), 4);
    }

    private static void p27Undo() {
        StateRecords s = world(2);
        due("no mark", s.undo(), STATE);
        s.row(0, 3, 2);
        s.mark();
        due("nothing", s.undo(), 0);
        s.mark();
        s.put(0, 0, 1);
        s.put(0, 0, 2);
        s.put(0, 1, 3);
        s.refer(0, 2, 1);
        s.mark();
        s.item(0, 3, 1, 9);
        s.item(0, 3, 1, 8);
        s.share(1, 4, 0, 3);
        s.row(0, 3, 1);
        s.item(0, 3, 0, 4);
        due("failed ones are not noted", s.item(0, 3, 1, 4), INDEX);
        due("since the latest", s.undo(), 5);
        due("row", at(s, 0, 3), 2);
        due("item", itemAt(s, 0, 3, 1), 0);
        due("no row", at(s, 1, 4), NONE);
        due("ahead of it stays", at(s, 0, 2), 1);
        due("noted", s.count(3), 4);
        due("the one ahead", s.undo(), 4);
        due("whole", at(s, 0, 0), 7);
        due("word", at(s, 0, 1), NONE);
        due("thing", at(s, 0, 2), NONE);
        due("no mark any more", s.undo(), STATE);
        undoIsFull();
        undoLeavesOthers();
    }

    private static void undoIsFull() {
        StateRecords s = world(1);
        s.row(0, 3, 1);
        s.mark();
        for (int i = 0; i < 80; i++) {
            if (i == 40) {
                s.mark();
            }
            due("noted", s.put(0, 0, i), 1);
        }
        due("put", s.put(0, 0, 80), FULL);
        due("refer", s.refer(0, 2, 0), FULL);
        due("row", s.row(0, 3, 2), FULL);
        due("share", s.share(0, 4, 0, 3), FULL);
        due("item", s.item(0, 3, 0, 5), FULL);
        due("word ahead of FULL", s.put(0, 1, 16), WORD_OUT);
        due("CAST ahead of FULL", s.refer(0, 0, 0), CAST);
        due("SIZE ahead of FULL", s.row(0, 3, -2), SIZE);
        due("CAST ahead of FULL", s.share(0, 0, 0, 0), CAST);
        due("INDEX ahead of FULL", s.item(0, 3, 1, 0), INDEX);
        due("noted", s.count(3), 80);
        due("unchanged", at(s, 0, 0), 79);
        due("no row", at(s, 0, 4), NONE);
        due("row", at(s, 0, 3), 1);
        due("item", itemAt(s, 0, 3, 0), 0);
        due("undo", s.undo(), 40);
        due("as at the mark", at(s, 0, 0), 39);
        due("room again", s.put(0, 0, 5), 1);
        due("undo", s.undo(), 41);
        due("without a mark", s.put(0, 0, 5), 1);
        due("none noted", s.count(3), 0);
    }

    private static void undoLeavesOthers() {
        StateRecords s = world(1);
        s.mark();
        s.word(3, false);
        s.shut(0, 0, true);
        s.check(0, 4, 0, 0, 0);
        s.type();
        s.thing(1);
        due("none of these is noted", s.count(3), 0);
        due("undo", s.undo(), 0);
        due("word", s.word(3, true), 0);
        due("shut", s.shut(0, 0, false), 1);
        due("check", s.unchecked(0), 1);
        due("types", s.count(0), 2);
        due("things", s.count(1), 2);
    }

    private static void p28Count() {
        StateRecords s = world(3);
        s.type();
        s.mark();
        s.mark();
        s.put(0, 0, 0);
        s.put(0, 0, 0);
        s.put(0, 0, 0);
        s.put(0, 0, 0);
        due("types", s.count(0), 2);
        due("things", s.count(1), 3);
        due("marks", s.count(2), 2);
        due("changes", s.count(3), 4);
        due("what", s.count(4), BAD);
        for (int n : WRONG) {
            due("what " + n, s.count(n), BAD);
        }
    }

    private static void askOf(int number) {
        promise = number;
        switch (number) {
            case 1: p1NewObject(); break;
            case 2: p2Type(); break;
            case 3: p3Field(); break;
            case 4: p4Drop(); break;
            case 5: p5Shut(); break;
            case 6: p6Check(); break;
            case 7: p7Unchecked(); break;
            case 8: p8Word(); break;
            case 9: p9Thing(); break;
            case 10: p10Put(); break;
            case 11: p11Refer(); break;
            case 12: p12Row(); break;
            case 13: p13Share(); break;
            case 14: p14Item(); break;
            case 15: p15At(); break;
            case 16: p16ItemAt(); break;
            case 17: p17Forget(); break;
            case 18: p18Told(); break;
            case 19: p19Judge(); break;
            case 20: p20Save(); break;
            case 21: p21Saved(); break;
            case 22: p22Restore(); break;
            case 23: p23Fault(); break;
            case 24: p24Like(); break;
            case 25: p25Differs(); break;
            case 26: p26Mark(); break;
            case 27: p27Undo(); break;
            default: p28Count(); break;
        }
    }

    public static void main(String[] args) {
        for (int number = 1; number <= 28; number++) {
            askOf(number);
        }
        System.out.println(asked + " answers asked, " + wrong + " not as due");
        if (wrong != 0) {
            System.exit(1);
        }
    }
}
