import java.lang.reflect.Constructor;
import java.lang.reflect.Field;
import java.lang.reflect.Method;
import java.lang.reflect.Modifier;
import java.util.Arrays;
import java.util.Set;
import java.util.TreeSet;

/** The class has the document's face, and nothing else of it can be seen. */
public final class FaceTest {
    private static final String[] FACE = {
        "int type()", "int field(int,int,int,long)", "int drop(int,int)", "int shut(int,int,boolean)",
        "int check(int,int,int,int,long)", "int unchecked(int)", "int word(int,boolean)", "int thing(int)",
        "int put(int,int,long)", "int refer(int,int,int)", "int row(int,int,int)", "int share(int,int,int,int)",
        "int item(int,int,int,long)", "long at(int,int)", "long itemAt(int,int,int)", "int forget()",
        "int told(int,int)", "int judge(int)", "int save(int,int)", "int saved(int,int)", "int restore(int,int)",
        "int fault(int)", "int like(int,int)", "int differs(int,int)", "int mark()", "int undo()", "int count(int)"};

    private static int wrong;

    private static void due(String what, Object got, Object want) {
        if (!got.equals(want)) {
            wrong++;
            System.out.println(what + " is " + got + ", due is " + want);
        }
    }

    private static String written(Method method) {
        StringBuilder text = new StringBuilder(method.getReturnType().getName()).append(' ').append(method.getName());
        text.append('(');
        for (int i = 0; i < method.getParameterCount(); i++) {
            text.append(i == 0 ? "" : ",").append(method.getParameterTypes()[i].getName());
        }
        return text.append(')').toString();
    }

    private static void methods() {
        Set<String> seen = new TreeSet<>();
        Set<String> publicNames = new TreeSet<>();
        for (Method method : StateRecords.class.getDeclaredMethods()) {
            if (!Modifier.isPrivate(method.getModifiers())) {
                seen.add(written(method));
                publicNames.add(method.getName());
                due(method + " is public and no more", Modifier.toString(method.getModifiers()), "public");
            }
        }
        due("the methods", seen, new TreeSet<>(Arrays.asList(FACE)));
        for (Method method : StateRecords.class.getDeclaredMethods()) {
            if (Modifier.isPrivate(method.getModifiers())) {
                due(method + " bears a public name", publicNames.contains(method.getName()), false);
            }
        }
    }

    private static void fields() throws IllegalAccessException {
        Set<String> seen = new TreeSet<>();
        for (Field field : StateRecords.class.getDeclaredFields()) {
            if (!Modifier.isPrivate(field.getModifiers())) {
                seen.add(Modifier.toString(field.getModifiers()) + " " + field.getType() + " " + field.getName() + " "
                        + field.get(null));
            } else if (Modifier.isStatic(field.getModifiers())) {
                due(field + " is final", Modifier.isFinal(field.getModifiers()), true);
            }
        }
        due("the constants", seen, new TreeSet<>(Arrays.asList("public static final int NONE -1",
                "public static final int BAD -2", "public static final int STATE -3", "public static final int FULL -4")));
    }

    private static void classes() {
        due("the class", Modifier.toString(StateRecords.class.getModifiers()), "public final");
        due("its package", StateRecords.class.getPackageName(), "");
        due("above it", StateRecords.class.getSuperclass(), Object.class);
        Constructor<?>[] constructors = StateRecords.class.getDeclaredConstructors();
        due("constructors", constructors.length, 1);
        due("the constructor", constructors[0].toString(), "public StateRecords()");
        for (Class<?> inside : StateRecords.class.getDeclaredClasses()) {
            int modifiers = inside.getModifiers();
            due(inside + " is static", Modifier.isStatic(modifiers), true);
            due(inside + " is open", Modifier.isPublic(modifiers) || Modifier.isProtected(modifiers), false);
        }
    }

    private static void thrown() throws NoSuchMethodException {
        due("at throws", Arrays.asList(StateRecords.class.getMethod("at", int.class, int.class).getExceptionTypes()),
                Arrays.asList(IllegalArgumentException.class, IndexOutOfBoundsException.class));
        due("itemAt throws", Arrays.asList(
                StateRecords.class.getMethod("itemAt", int.class, int.class, int.class).getExceptionTypes()),
                Arrays.asList(IllegalArgumentException.class, IllegalStateException.class,
                        IndexOutOfBoundsException.class));
    }

    public static void main(String[] args) throws ReflectiveOperationException {
        methods();
        fields();
        classes();
        thrown();
        System.out.println(wrong == 0 ? "the face is as due" : wrong + " parts of the face are not as due");
        if (wrong != 0) {
            System.exit(1);
        }
    }
}
