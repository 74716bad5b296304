import java.lang.reflect.Constructor;
import java.lang.reflect.Field;
import java.lang.reflect.Method;
import java.lang.reflect.Modifier;
import java.util.TreeSet;

/** The public face: its constants, constructor and methods, and no other member that is not private. */
public final class FaceTest {
    private static final String[] METHODS = {
        "int append(int)", "int account(int)", "int audit(int)", "int best(int, int)", "int bestAgain(int, int)",
        "int book(int, int, int, int)", "int booking(int, int)", "int character(int)", "int ends()",
        "int endsAgain()", "int exempt(int, int)", "int fool(int)", "int foolOf(int, int)", "int forecast()",
        "int insure(int)", "int isBalanced()", "int joke(int)", "int jokeOf(int, int)", "double meanWit()",
        "int next()", "int pass(int)", "int patent(int, int, int)", "int ranked(int)", "int reason(boolean)",
        "int restore()", "int run()", "int save()", "float slipShare()", "int stalest(int)", "int tell(int)",
        "int tellBookings()", "int throneOf(int, int)", "int told(int, int)", "int undo()",
        "int would(int, int, int)"
    };

    public static void main(String[] args) {
        constants();
        methods();
        nothingElse();
        Due.finish();
    }

    private static void constants() {
        Due.due("NONE", JesterUnion.NONE, -1011);
        Due.due("BAD", JesterUnion.BAD, -1012);
        Due.due("FULL", JesterUnion.FULL, -1013);
        Due.due("REFUSED", JesterUnion.REFUSED, -1014);
        Due.due("NOTHING", JesterUnion.NOTHING, -1015);
    }

    private static void methods() {
        TreeSet<String> found = new TreeSet<>();
        TreeSet<String> names = new TreeSet<>();
        for (Method method : JesterUnion.class.getDeclaredMethods()) {
            if (!Modifier.isPrivate(method.getModifiers())) {
                found.add(described(method));
                names.add(method.getName());
            }
        }
        Due.dueText("the methods", found.toString(), new TreeSet<>(java.util.List.of(METHODS)).toString());
        for (Method method : JesterUnion.class.getDeclaredMethods()) {
            boolean isHidden = Modifier.isPrivate(method.getModifiers());
            Due.due(method + " bears a name of its own", isHidden && names.contains(method.getName()) ? 0 : 1, 1);
        }
        for (Class<?> inside : JesterUnion.class.getDeclaredClasses()) {
            for (Method method : inside.getDeclaredMethods()) {
                Due.due(method + " bears a name of its own", names.contains(method.getName()) ? 0 : 1, 1);
            }
        }
    }

    private static String described(Method method) {
        StringBuilder parts = new StringBuilder();
        for (Class<?> type : method.getParameterTypes()) {
            parts.append(parts.length() > 0 ? ", " : "").append(type.getName());
        }
        return method.getReturnType().getName() + " " + method.getName() + "(" + parts + ")";
    }

    private static void nothingElse() {
        Due.due("the class is public and final", JesterUnion.class.getModifiers(), Modifier.PUBLIC | Modifier.FINAL);
        Constructor<?>[] constructors = JesterUnion.class.getDeclaredConstructors();
        Due.due("the constructors", constructors.length, 1);
        Due.due("the constructor is public", constructors[0].getModifiers(), Modifier.PUBLIC);
        TreeSet<String> fields = new TreeSet<>();
        for (Field field : JesterUnion.class.getDeclaredFields()) {
            if (!Modifier.isPrivate(field.getModifiers())) {
                fields.add(field.getName());
            }
        }
        Due.dueText("the constants", fields.toString(), "[BAD, FULL, NONE, NOTHING, REFUSED]");
        for (Class<?> inside : JesterUnion.class.getDeclaredClasses()) {
            boolean isOpen = Modifier.isPublic(inside.getModifiers()) || Modifier.isProtected(inside.getModifiers());
            Due.due(inside + " is not open", isOpen ? 1 : 0, 0);
        }
    }
}
