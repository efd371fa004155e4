import java.lang.reflect.Constructor;
import java.lang.reflect.Field;
import java.lang.reflect.Method;
import java.lang.reflect.Modifier;
import java.util.Arrays;
import java.util.Set;
import java.util.TreeSet;

/** The class has the document's public face, and nothing else that can be seen from outside. */
public final class FaceTests {
    private static int wrong = 0;

    private static void due(String what, Object got, Object want) {
        if (!want.equals(got)) {
            wrong++;
            System.out.println(what + " is " + got + ", due is " + want);
        }
    }

    public static void main(String[] args) {
        due("the class's modifiers", CallNumbers.class.getModifiers(), Modifier.PUBLIC | Modifier.FINAL);
        due("the class above it", CallNumbers.class.getSuperclass(), Object.class);
        due("its interfaces", CallNumbers.class.getInterfaces().length, 0);
        due("its package", CallNumbers.class.getPackageName(), "");
        due("NONE", CallNumbers.NONE, -1);
        due("the constructors", constructors(), Set.of("public CallNumbers(int)"));
        due("the methods", methods(), new TreeSet<>(Arrays.asList(
                "public void sign(int)",
                "public int read()",
                "public long part(int) throws ArrayIndexOutOfBoundsException",
                "public int letter(int)",
                "public int put(int)",
                "public int shelf(int)",
                "public int take(int)",
                "public int compare(int, int)",
                "public int before()",
                "public int free()",
                "public int spine(int)",
                "public int pass(int)")));
        due("the fields", fields(), Set.of("public static final int NONE"));
        due("the classes inside that can be seen or are not static", openClasses(), Set.of());
        due("the number of namesakes", namesakes(), 0);
        System.out.println(wrong == 0 ? "the face is as due" : wrong + " answers are not as due");
        if (wrong != 0) {
            System.exit(1);
        }
    }

    private static Set<String> constructors() {
        Set<String> seen = new TreeSet<>();
        for (Constructor<?> made : CallNumbers.class.getDeclaredConstructors()) {
            if (!Modifier.isPrivate(made.getModifiers())) {
                seen.add(made.toString());
            }
        }
        return seen;
    }

    private static Set<String> methods() {
        Set<String> seen = new TreeSet<>();
        for (Method method : CallNumbers.class.getDeclaredMethods()) {
            if (!Modifier.isPrivate(method.getModifiers())) {
                seen.add(method.toString().replace("CallNumbers.", "").replace("java.lang.", "")
                        .replace(",", ", "));
            }
        }
        return seen;
    }

    private static Set<String> fields() {
        Set<String> seen = new TreeSet<>();
        for (Field field : CallNumbers.class.getDeclaredFields()) {
            if (!Modifier.isPrivate(field.getModifiers())) {
                seen.add(field.toString().replace("CallNumbers.", ""));
            }
        }
        return seen;
    }

    private static Set<String> openClasses() {
        Set<String> seen = new TreeSet<>();
        for (Class<?> inside : CallNumbers.class.getDeclaredClasses()) {
            int modifiers = inside.getModifiers();
            boolean open = Modifier.isPublic(modifiers) || Modifier.isProtected(modifiers);
            if (open || !Modifier.isStatic(modifiers)) {
                seen.add(inside.getName());
            }
        }
        return seen;
    }

    /** How many methods that are not of the face bear a name of the face. */
    private static int namesakes() {
        Set<String> names = new TreeSet<>();
        for (Method method : CallNumbers.class.getMethods()) {
            if (method.getDeclaringClass() == CallNumbers.class) {
                names.add(method.getName());
            }
        }
        int found = countNamed(names, CallNumbers.class, true);
        for (Class<?> inside : CallNumbers.class.getDeclaredClasses()) {
            found += countNamed(names, inside, false);
        }
        return found;
    }

    private static int countNamed(Set<String> names, Class<?> where, boolean onlyPrivate) {
        int found = 0;
        for (Method method : where.getDeclaredMethods()) {
            boolean counts = !onlyPrivate || Modifier.isPrivate(method.getModifiers());
            if (counts && names.contains(method.getName())) {
                found++;
            }
        }
        return found;
    }
}
