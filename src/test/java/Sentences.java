import java.lang.reflect.InvocationTargetException;
import java.lang.reflect.Method;
import java.util.Arrays;
import java.util.Comparator;
import java.util.function.Supplier;
import java.util.function.ToLongFunction;

/** What the tests that go by the document's sentences have in common, and how they are run. */
abstract class Sentences {
    static final int NONE = -1, BAD = -2, STATE = -3, FULL = -4;
    static final int NULL = -11, INDEX = -12, SIZE = -13, CAST = -14, DIVIDE = -15, OWN = -16;
    static final int WORD_OUT = -17, GONE = -18, OTHER_LANE = -19, SHUT = -20;
    static final int NO_FAULT = -9;
    static final int WHOLE = 0, WORD = 1, THING = 2, BYTES = 3, INTS = 4, LONGS = 5;
    static final int DIVIDES = 0, MEETS = 1, HAS = 2, HOLDS = 3, LEAST = 4, LEADS = 5;
    static final long ARGUMENT = World.ARGUMENT, ILLEGAL_STATE = World.ILLEGAL_STATE;
    static final long OUT_OF_BOUNDS = World.OUT_OF_BOUNDS;
    static final int INT_MIN = Integer.MIN_VALUE, INT_MAX = Integer.MAX_VALUE;
    static final long LONG_MIN = Long.MIN_VALUE, LONG_MAX = Long.MAX_VALUE, TWO_32 = 1L << 32;

    private static String sentence;
    private static int asked;
    private static int wrong;

    static void due(String call, long got, long want) {
        asked++;
        if (got != want) {
            tell(call + " answered " + got + ", due is " + want);
        }
    }

    private static void tell(String what) {
        wrong++;
        System.out.println(sentence + ": " + what);
    }

    /** The numbers next to first .. last, the ends of int, and some whose lowest bits are inside. */
    static int[] outside(int first, int last) {
        return new int[] {first - 1, last + 1, INT_MIN, INT_MAX, first + 256, first + 65536};
    }

    /** The call answers so, and leaves all that can be seen, fault() too, as it was. */
    static void refused(String call, Supplier<World> build, ToLongFunction<World> ask, long want) {
        World before = build.get();
        World after = build.get();
        due(call, ask.applyAsLong(after), want);
        for (int what = 0; what < 3; what++) {
            due(call + ", then fault(" + what + ")", after.fault(what), before.fault(what));
        }
        sameAs(call, before, after);
    }

    /** The call FAILS and fault() tells of it, but all else is as it was. */
    static void failed(String call, Supplier<World> build, ToLongFunction<World> ask, long want, int... fault) {
        World after = build.get();
        due(call, ask.applyAsLong(after), want);
        for (int what = 0; what < 3; what++) {
            due(call + ", then fault(" + what + ")", after.fault(what), fault[what]);
        }
        sameAs(call, build.get(), after);
    }

    private static void sameAs(String call, World before, World after) {
        asked++;
        String was = before.picture();
        String is = after.picture();
        if (!was.equals(is)) {
            tell(call + " is refused, but changed something. Before:\n" + was + "After:\n" + is);
        }
    }

    static void run(Class<?> tests) {
        Method[] methods = tests.getDeclaredMethods();
        Arrays.sort(methods, Comparator.comparing(Method::getName));
        int ran = 0;
        for (Method method : methods) {
            if (method.isAnnotationPresent(Says.class)) {
                runOne(method);
                ran++;
            }
        }
        System.out.println(ran + " sentences, " + asked + " answers asked, " + wrong + " not as due");
        if (wrong != 0 || ran == 0) {
            System.exit(1);
        }
    }

    private static void runOne(Method method) {
        Says says = method.getAnnotation(Says.class);
        sentence = says.in() + " \"" + says.value() + "\" (" + method.getName() + ")";
        int before = asked;
        try {
            method.setAccessible(true);
            method.invoke(null);
        } catch (InvocationTargetException e) {
            tell("threw " + e.getCause());
        } catch (IllegalAccessException e) {
            tell("cannot be run");
        }
        if (asked == before) {
            tell("asks nothing");
        }
    }
}
