import java.lang.reflect.Constructor;
import java.lang.reflect.Field;
import java.lang.reflect.Method;
import java.lang.reflect.Modifier;
import java.util.Set;
import java.util.TreeSet;

/** "The public face": just the document's members with just its exceptions, and nothing else to be seen from outside. */
public final class FaceTest {
    private static final String INDEX = "IndexOutOfBoundsException";
    private static final String ARGUMENT = "IllegalArgumentException";
    private static final String STATE = "IllegalStateException";

    private static final Set<String> DUE = new TreeSet<>();

    public static void main(String[] args) {
        archersAndQuivers();
        shooting();
        whatIsAsked();
        whatWouldBe();
        theClass();
        theConstructor();
        theMethods();
        theFields();
        theClassesInside();
        Check.end();
    }

    private static void due(String method, String... exceptions) {
        DUE.add(method + " throws " + new TreeSet<>(Set.of(exceptions)));
    }

    private static void archersAndQuivers() {
        due("int archer(int, int)", ARGUMENT, STATE);
        due("int quiver(int, int)", ARGUMENT, STATE);
        due("int give(int, int)", INDEX, STATE);
        due("int tune(int, int, int)", INDEX, ARGUMENT);
        due("double string(int)", INDEX);
        due("int field(int, int, int)", ARGUMENT, STATE);
        due("int wind(int)", ARGUMENT);
    }

    private static void shooting() {
        due("int shoot(int, int)", INDEX, STATE);
        due("int pull()");
        due("int mend(int)", INDEX);
        due("int match(int, int)", INDEX, ARGUMENT, STATE);
        due("int breakOff()", STATE);
        due("boolean close(boolean)");
        due("int horn()");
    }

    private static void whatIsAsked() {
        due("int ofArcher(int, int)", INDEX, ARGUMENT);
        due("double speed(int)", INDEX);
        due("int ofQuiver(int, int)", INDEX, ARGUMENT);
        due("double hit(int, int, boolean)", INDEX);
        due("int many(int)", ARGUMENT);
        due("int ofMatch(int)", ARGUMENT);
        due("int winner()");
    }

    private static void whatWouldBe() {
        due("double wouldHit(int, int, boolean)", INDEX, ARGUMENT, STATE);
        due("int mark(int)", INDEX, STATE);
        due("int best(int)", INDEX);
        due("int reach(int)", INDEX, STATE);
        due("int wouldScore(int)", INDEX, STATE);
        due("long digest()");
    }

    private static void theClass() {
        int is = ArrowField.class.getModifiers();
        Check.due("the class is public", true, Modifier.isPublic(is));
        Check.due("the class is final", true, Modifier.isFinal(is));
        Check.due("the class is of no package", true, ArrowField.class.getPackageName().isEmpty());
        Check.due("the class extends Object", true, ArrowField.class.getSuperclass() == Object.class);
        Check.due("interfaces of the class", 0, ArrowField.class.getInterfaces().length);
    }

    private static void theConstructor() {
        Constructor<?>[] made = ArrowField.class.getDeclaredConstructors();
        Check.due("constructors", 1, made.length);
        Check.due("arguments of the constructor", 0, made[0].getParameterCount());
        Check.due("the constructor is public", true, Modifier.isPublic(made[0].getModifiers()));
        Check.due("exceptions of the constructor", 0, made[0].getExceptionTypes().length);
    }

    /** No private method bears the name of a public one, nor can any be seen beside the document's. */
    private static void theMethods() {
        Set<String> got = new TreeSet<>();
        Set<String> names = new TreeSet<>();
        for (Method method : ArrowField.class.getDeclaredMethods()) {
            if (Modifier.isPublic(method.getModifiers())) {
                got.add(told(method));
                names.add(method.getName());
                Check.due(method + " is static", false, Modifier.isStatic(method.getModifiers()));
            }
        }
        for (Method method : ArrowField.class.getDeclaredMethods()) {
            if (!Modifier.isPublic(method.getModifiers())) {
                Check.due(method + " is private", true, Modifier.isPrivate(method.getModifiers()));
                Check.due(method + " is named as a public one", false, names.contains(method.getName()));
            }
        }
        Check.due("methods of the document", 27, DUE.size());
        for (String method : DUE) {
            Check.due("there is " + method, true, got.contains(method));
        }
        for (String method : got) {
            Check.due("the document tells " + method, true, DUE.contains(method));
        }
    }

    private static String told(Method method) {
        StringBuilder arguments = new StringBuilder();
        for (Class<?> type : method.getParameterTypes()) {
            arguments.append(arguments.length() == 0 ? "" : ", ").append(type.getSimpleName());
        }
        Set<String> exceptions = new TreeSet<>();
        for (Class<?> type : method.getExceptionTypes()) {
            exceptions.add(type.getSimpleName());
        }
        return method.getReturnType().getSimpleName() + " " + method.getName() + "(" + arguments + ") throws "
                + exceptions;
    }

    private static void theFields() {
        for (Field field : ArrowField.class.getDeclaredFields()) {
            int is = field.getModifiers();
            Check.due(field + " is private", true, Modifier.isPrivate(is));
            Check.due(field + " is final, if static", true, !Modifier.isStatic(is) || Modifier.isFinal(is));
        }
    }

    private static void theClassesInside() {
        for (Class<?> inside : ArrowField.class.getDeclaredClasses()) {
            int is = inside.getModifiers();
            Check.due(inside + " is static", true, Modifier.isStatic(is));
            Check.due(inside + " can be seen from outside", false, Modifier.isPublic(is) || Modifier.isProtected(is));
        }
    }
}
