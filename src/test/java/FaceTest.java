import java.lang.reflect.Constructor;
import java.lang.reflect.Field;
import java.lang.reflect.Member;
import java.lang.reflect.Method;
import java.lang.reflect.Modifier;
import java.util.Arrays;
import java.util.Set;
import java.util.TreeSet;

/** The class has the document's face and shows nothing else. */
public final class FaceTest {
    private static final Set<String> METHODS = new TreeSet<>(Arrays.asList(
            "int type(long, int)", "int build()", "int size()", "int at(int)", "int suffix(int)", "int rank(int)",
            "int column(int)", "int common(int)", "int moved(int)", "int distinct()", "int repeat()", "int seek()",
            "int extend(int)", "int before()", "int hit(int)", "int match(int)", "int revert(int)"));
    private static final Set<String> CONSTANTS = new TreeSet<>(Arrays.asList("BAD", "NONE", "FULL", "NOT"));
    private static final Due due = new Due();

    private FaceTest() {
    }

    public static void main(String[] args) {
        int modifiers = ColumnIndex.class.getModifiers();
        due.holds("the class is public and final", Modifier.isPublic(modifiers) && Modifier.isFinal(modifiers));
        due.holds("it is in no package", ColumnIndex.class.getPackageName().isEmpty());
        methods();
        constants();
        constructor();
        nestedClasses();
        due.end();
    }

    private static void methods() {
        Set<String> shown = new TreeSet<>();
        Set<String> publicNames = new TreeSet<>();
        for (Method method : ColumnIndex.class.getDeclaredMethods()) {
            if (isShown(method)) {
                due.holds(method + " is public and no static one", method.getModifiers() == Modifier.PUBLIC);
                shown.add(signature(method));
                publicNames.add(method.getName());
            }
        }
        due.holds("the methods are the document's: " + shown, shown.equals(METHODS));
        for (Method method : ColumnIndex.class.getDeclaredMethods()) {
            due.holds(method + " bears no public name", isShown(method) || !publicNames.contains(method.getName()));
        }
    }

    private static void constants() {
        Set<String> shown = new TreeSet<>();
        for (Field field : ColumnIndex.class.getDeclaredFields()) {
            if (isShown(field)) {
                int wanted = Modifier.PUBLIC | Modifier.STATIC | Modifier.FINAL;
                due.holds(field + " is a public int constant", field.getModifiers() == wanted && field.getType() == int.class);
                shown.add(field.getName());
            }
            due.holds(field + " is final if static",
                    !Modifier.isStatic(field.getModifiers()) || Modifier.isFinal(field.getModifiers()));
        }
        due.holds("the constants are the document's: " + shown, shown.equals(CONSTANTS));
    }

    private static void constructor() {
        Constructor<?>[] constructors = ColumnIndex.class.getDeclaredConstructors();
        due.same("how many constructors", constructors.length, 1);
        due.holds("it is public and takes nothing",
                isShown(constructors[0]) && Modifier.isPublic(constructors[0].getModifiers())
                        && constructors[0].getParameterCount() == 0);
    }

    private static void nestedClasses() {
        for (Class<?> nested : ColumnIndex.class.getDeclaredClasses()) {
            int modifiers = nested.getModifiers();
            due.holds(nested + " is static and not public or protected",
                    Modifier.isStatic(modifiers) && !Modifier.isPublic(modifiers) && !Modifier.isProtected(modifiers));
        }
    }

    private static boolean isShown(Member member) {
        return !Modifier.isPrivate(member.getModifiers());
    }

    private static String signature(Method method) {
        String types = Arrays.toString(method.getParameterTypes());
        return method.getReturnType() + " " + method.getName() + "(" + types.substring(1, types.length() - 1) + ")";
    }
}
