import java.lang.reflect.Constructor;
import java.lang.reflect.Field;
import java.lang.reflect.Member;
import java.lang.reflect.Method;
import java.lang.reflect.Modifier;
import java.util.Arrays;
import java.util.Set;
import java.util.TreeSet;

/** The public face is the document's, and nothing else is seen from outside. */
final class FaceTests {
    private static final String[] FACE = {
        "int put(int, boolean, int, int) index argument",
        "int putDigits(int, int, int) index",
        "int putParts(int, boolean, int, int, int) index argument",
        "int copy(int, int) index",
        "int swap(int, int) index",
        "int minus(int) index",
        "int take(int, int) index",
        "int keep(int, int) index",
        "int up(int, int) index",
        "int down(int, int) index",
        "int steps(int, int, int) index argument",
        "int towards(int, int, int) index",
        "int shift(int, int, int) index argument",
        "int unit(int, int) index",
        "int unitByPower(int, int) index",
        "int gap(int, boolean, int) index",
        "int sum(int, int, boolean, int) index",
        "int error(int, int, boolean, int) index",
        "int middle(int, int, int) index",
        "int least(int, int, int) index argument",
        "int readBinary(boolean, int, int) index",
        "int readDecimal(boolean, int, int) index",
        "int power(int) index",
        "int powerByUnit(int) index",
        "boolean isEdge(int) index",
        "boolean isUnitStep(int) index",
        "boolean isNear(int) index",
        "boolean isWithin(int, int) index",
        "int exact(int, int, boolean) index",
        "int holds(int, int, boolean) index",
        "int walk(int, int) index",
        "int window(boolean, int) index",
        "int offset(boolean, int) index",
        "int upper(boolean, int) index",
        "int lower(boolean, int) index",
        "String parts(boolean, int) index",
        "String place(boolean, int) index",
        "String between(boolean, int, boolean, int) index",
        "String binary(boolean, int) index",
        "String decimal(boolean, int) index",
        "int decimals(boolean, int) index",
        "boolean isSame(boolean, int, boolean, int) index",
        "int order(boolean, int, boolean, int) index",
        "int house(int) argument",
        "int knock()",
        "boolean isSound()",
        "long digest()",
    };

    private FaceTests() {
    }

    static void run() {
        Check.test("the public methods are the document's", FaceTests::testMethods);
        Check.test("nothing else is seen from outside", FaceTests::testHidden);
        Check.test("no private method bears a public one's name", FaceTests::testNames);
        Check.test("static fields are final", FaceTests::testStaticFields);
    }

    private static void testMethods() {
        Set<String> seen = new TreeSet<>();
        for (Method method : Nearplaces.class.getDeclaredMethods()) {
            if (Modifier.isPublic(method.getModifiers())) {
                seen.add(described(method));
            }
        }
        Set<String> due = new TreeSet<>(Arrays.asList(FACE));
        Check.due("the public methods", due, () -> seen);
    }

    private static String described(Method method) {
        StringBuilder text = new StringBuilder(method.getReturnType().getSimpleName());
        text.append(' ').append(method.getName()).append('(');
        Class<?>[] types = method.getParameterTypes();
        for (int i = 0; i < types.length; i++) {
            text.append(i == 0 ? "" : ", ").append(types[i].getSimpleName());
        }
        text.append(')');
        for (Class<?> thrown : method.getExceptionTypes()) {
            text.append(thrown == IndexOutOfBoundsException.class ? " index" : "");
            text.append(thrown == IllegalArgumentException.class ? " argument" : "");
        }
        return text.toString();
    }

    private static void testHidden() {
        Check.due("Nearplaces is public and final", Modifier.PUBLIC | Modifier.FINAL,
                () -> Nearplaces.class.getModifiers());
        Constructor<?>[] constructors = Nearplaces.class.getDeclaredConstructors();
        Check.due("how many constructors", 1, () -> constructors.length);
        Check.due("the constructor is public", true, () -> Modifier.isPublic(constructors[0].getModifiers()));
        Check.due("its parameters", 0, () -> constructors[0].getParameterCount());
        for (Field field : Nearplaces.class.getDeclaredFields()) {
            Check.due(field.getName() + " is private", true, () -> Modifier.isPrivate(field.getModifiers()));
        }
        for (Method method : Nearplaces.class.getDeclaredMethods()) {
            boolean isSeen = !isPrivate(method) && !Modifier.isPublic(method.getModifiers());
            Check.due(method.getName() + " is seen in the package", false, () -> isSeen);
        }
        for (Class<?> inside : Nearplaces.class.getDeclaredClasses()) {
            int open = Modifier.PUBLIC | Modifier.PROTECTED;
            Check.due(inside.getName() + " is seen", 0, () -> inside.getModifiers() & open);
            Check.due(inside.getName() + " is static", true, () -> Modifier.isStatic(inside.getModifiers()));
        }
    }

    private static boolean isPrivate(Member member) {
        return Modifier.isPrivate(member.getModifiers());
    }

    /** The names of the document's methods. */
    static Set<String> names() {
        Set<String> names = new TreeSet<>();
        for (String line : FACE) {
            names.add(line.substring(line.indexOf(' ') + 1, line.indexOf('(')));
        }
        return names;
    }

    private static void testNames() {
        Set<String> names = names();
        testPrivateNames(Nearplaces.class, names);
        for (Class<?> inside : Nearplaces.class.getDeclaredClasses()) {
            testPrivateNames(inside, names);
        }
    }

    private static void testPrivateNames(Class<?> kind, Set<String> names) {
        for (Method method : kind.getDeclaredMethods()) {
            boolean isDoubled = isPrivate(method) && names.contains(method.getName());
            Check.due(method.getName() + " bears a public name", false, () -> isDoubled);
        }
    }

    private static void testStaticFields() {
        for (Field field : Nearplaces.class.getDeclaredFields()) {
            testStaticField(field);
        }
        for (Class<?> inside : Nearplaces.class.getDeclaredClasses()) {
            for (Field field : inside.getDeclaredFields()) {
                testStaticField(field);
            }
        }
    }

    private static void testStaticField(Field field) {
        int modifiers = field.getModifiers();
        boolean isOpen = Modifier.isStatic(modifiers) && !Modifier.isFinal(modifiers);
        Check.due(field.getName() + " is static and not final", false, () -> isOpen);
    }
}
