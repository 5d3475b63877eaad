/**
 * A StateRecords whose calls are counted, since nothing is promised beyond 512 of them,
 * and whose exceptions are answers.
 */
final class World {
    static final long ARGUMENT = Long.MIN_VALUE + 101, ILLEGAL_STATE = Long.MIN_VALUE + 102;
    static final long OUT_OF_BOUNDS = Long.MIN_VALUE + 103;

    private static final int STATE = -3, MOST_CALLS = 512, FIRST_NAME = 10;

    private final StateRecords s = new StateRecords();
    private int calls;

    private StateRecords used() {
        calls++;
        if (calls > MOST_CALLS) {
            throw new AssertionError("the test itself makes too many calls of one object");
        }
        return s;
    }

    // ---- the calls of the face ----

    int type() {
        return used().type();
    }

    int field(int t, int name, int lane, long v) {
        return used().field(t, name, lane, v);
    }

    int drop(int t, int k) {
        return used().drop(t, k);
    }

    int shut(int t, int k, boolean on) {
        return used().shut(t, k, on);
    }

    int check(int t, int kind, int a, int b, long v) {
        return used().check(t, kind, a, b, v);
    }

    int unchecked(int t) {
        return used().unchecked(t);
    }

    int word(int w, boolean on) {
        return used().word(w, on);
    }

    int thing(int t) {
        return used().thing(t);
    }

    int put(int x, int k, long v) {
        return used().put(x, k, v);
    }

    int refer(int x, int k, int y) {
        return used().refer(x, k, y);
    }

    int row(int x, int k, int n) {
        return used().row(x, k, n);
    }

    int share(int x, int k, int y, int j) {
        return used().share(x, k, y, j);
    }

    int item(int x, int k, int i, long v) {
        return used().item(x, k, i, v);
    }

    long at(int x, int k) {
        StateRecords records = used();
        try {
            return records.at(x, k);
        } catch (RuntimeException e) {
            return answerFor(e);
        }
    }

    long itemAt(int x, int k, int i) {
        StateRecords records = used();
        try {
            return records.itemAt(x, k, i);
        } catch (RuntimeException e) {
            return answerFor(e);
        }
    }

    int forget() {
        return used().forget();
    }

    int told(int x, int what) {
        return used().told(x, what);
    }

    int judge(int x) {
        return used().judge(x);
    }

    int save(int s, int x) {
        return used().save(s, x);
    }

    int saved(int s, int what) {
        return used().saved(s, what);
    }

    int restore(int s, int rule) {
        return used().restore(s, rule);
    }

    int fault(int what) {
        return used().fault(what);
    }

    int like(int x, int y) {
        return used().like(x, y);
    }

    int differs(int s, int x) {
        return used().differs(s, x);
    }

    int mark() {
        return used().mark();
    }

    int undo() {
        return used().undo();
    }

    int count(int what) {
        return used().count(what);
    }

    // The machine's own exceptions are of classes below these, and are no answers.
    private static long answerFor(RuntimeException e) {
        if (e.getClass() == IllegalArgumentException.class) {
            return ARGUMENT;
        }
        if (e.getClass() == IllegalStateException.class) {
            return ILLEGAL_STATE;
        }
        if (e.getClass() == IndexOutOfBoundsException.class) {
            return OUT_OF_BOUNDS;
        }
        throw e;
    }

    // ---- building ----

    /** A world with a TYPE 0 whose FIELDS are of these LANES, NAMED 10, 11, ..; a WHOLE's DEFAULT is 7. */
    static World of(int... lanes) {
        return new World().typed(lanes);
    }

    /** One TYPE more, likewise. */
    World typed(int... lanes) {
        int t = type();
        for (int k = 0; k < lanes.length; k++) {
            field(t, FIRST_NAME + k, lanes[k], 7);
        }
        return this;
    }

    World things(int howMany, int t) {
        for (int i = 0; i < howMany; i++) {
            thing(t);
        }
        return this;
    }

    // ---- looking at all of it ----

    /** All that can be seen of it but fault(); it is used up by this. */
    String picture() {
        StringBuilder p = new StringBuilder();
        seeCounts(p);
        seeThings(p);
        seeSharing(p);
        seeWords(p);
        seeShut(p);
        seeWhatIsUndone(p);
        seeNames(p);
        seeChecks(p);
        seeSaves(p);
        seeDefaults(p);
        return p.toString();
    }

    private void seeCounts(StringBuilder p) {
        for (int what = 0; what < 4; what++) {
            p.append("count ").append(count(what)).append('\n');
        }
        for (int i = 0; i < 4; i++) {
            p.append("saved ").append(saved(i, 0)).append(' ').append(saved(i, 1)).append('\n');
        }
    }

    private void seeThings(StringBuilder p) {
        int things = count(1);
        for (int x = 0; x < things; x++) {
            int fields = told(x, 1);
            p.append("thing ").append(x).append(" of ").append(told(x, 0)).append(" judged ").append(judge(x));
            for (int k = 0; k < fields; k++) {
                seeField(p, x, k);
            }
            p.append('\n');
        }
    }

    private void seeField(StringBuilder p, int x, int k) {
        long value = at(x, k);
        p.append(" | ").append(value);
        for (int i = 0; i < value && i < 12; i++) {
            long item = itemAt(x, k, i);
            if (item == ILLEGAL_STATE) {
                return;
            }
            p.append(i == 0 ? ": " : ", ").append(item);
        }
    }

    /** How many ROWS a THING comes to, by a SAVE that is not used otherwise. */
    private void seeSharing(StringBuilder p) {
        if (saved(3, 0) != 0) {
            return;
        }
        int things = count(1);
        for (int x = 0; x < things && x < 4; x++) {
            p.append("comes to ").append(save(3, x)).append(' ').append(saved(3, 1)).append('\n');
        }
    }

    private void seeWords(StringBuilder p) {
        p.append("words");
        for (int w = 0; w < 16; w++) {
            int was = word(w, true);
            p.append(' ').append(was);
            if (was == 0) {
                word(w, false);
            }
        }
        p.append('\n');
    }

    private void seeShut(StringBuilder p) {
        int types = count(0);
        for (int t = 0; t < types; t++) {
            p.append("shut in ").append(t);
            for (int k = 0; k < 5; k++) {
                int was = shut(t, k, true);
                p.append(' ').append(was);
                if (was == 0) {
                    shut(t, k, false);
                }
            }
            p.append('\n');
        }
    }

    private void seeWhatIsUndone(StringBuilder p) {
        for (int undone = undo(); undone != STATE; undone = undo()) {
            p.append("undone ").append(undone).append('\n');
            seeThings(p);
        }
    }

    /** While a MARK stands a NAME that is there is BAD, and one that is not is STATE. */
    private void seeNames(StringBuilder p) {
        int types = count(0);
        mark();
        for (int t = 0; t < types && t < 2; t++) {
            p.append("names in ").append(t);
            for (int name = 0; name < 20; name++) {
                p.append(field(t, name, 0, 0) == STATE ? '.' : '#');
            }
            p.append('\n');
        }
        undo();
    }

    private void seeChecks(StringBuilder p) {
        int types = count(0);
        for (int t = 0; t < types; t++) {
            p.append("checks ").append(unchecked(t)).append('\n');
        }
    }

    private void seeSaves(StringBuilder p) {
        for (int i = 0; i < 3; i++) {
            if (saved(i, 0) > 0) {
                forget();
                p.append("save ").append(i).append(" put back ").append(restore(i, 3)).append('\n');
                seeThings(p);
            }
        }
    }

    private void seeDefaults(StringBuilder p) {
        forget();
        int types = count(0);
        for (int t = 0; t < types; t++) {
            thing(t);
        }
        seeThings(p);
    }
}
