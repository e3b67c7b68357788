import java.lang.reflect.Constructor;
import java.lang.reflect.Field;
import java.lang.reflect.Method;
import java.lang.reflect.Modifier;
import java.util.Arrays;
import java.util.Set;
import java.util.TreeSet;
import java.util.stream.Collectors;

/** The face of the class is the one of the document, and nothing else can be seen. */
public final class FaceTest {
    private static final String[] FACE = {
        "boolean add(int, int, int, int) throws IllegalArgumentException, IllegalStateException",
        "boolean remove(int, int, int, int) throws IllegalArgumentException",
        "int size(int) throws IllegalArgumentException",
        "int addRule(char, int, int, int) throws IllegalArgumentException, IllegalStateException",
        "int clearRules() throws ",
        "boolean entails(int, int, int, int) throws IllegalArgumentException",
        "int leastProof(int, int, int, int) throws IllegalArgumentException, NoSuchElementException",
        "int entailed(int) throws IllegalArgumentException",
        "boolean setEntailed(boolean) throws ",
        "int pattern(int, int, int, int) throws IllegalArgumentException, IllegalStateException",
        "int path(int, int, int, int, boolean) throws IllegalArgumentException, IllegalStateException",
        "int both(char, int, int) throws IllegalArgumentException, IndexOutOfBoundsException, IllegalStateException",
        "int filter(int, char, int, int) throws IndexOutOfBoundsException, IllegalArgumentException,"
            + " IllegalStateException",
        "int single(int) throws IndexOutOfBoundsException, IllegalStateException",
        "long rows(int) throws IndexOutOfBoundsException",
        "long rowsAnew(int) throws IndexOutOfBoundsException",
        "int row(int, int, int) throws IndexOutOfBoundsException, IllegalArgumentException, NoSuchElementException",
        "int different(int) throws IndexOutOfBoundsException",
        "int addRows(int, int, int, int, int) throws IndexOutOfBoundsException, IllegalArgumentException,"
            + " IllegalStateException",
        "int removeRows(int, int, int, int, int) throws IndexOutOfBoundsException, IllegalArgumentException",
        "int addShape(int, int, int, int, int) throws IllegalArgumentException, IllegalStateException",
        "int faults() throws ",
        "int faultAt(int) throws IndexOutOfBoundsException",
        "long checksum() throws ",
        "float thereShare() throws ArithmeticException",
        "double meanProof() throws ArithmeticException",
        "boolean isSound() throws ",
    };

    public static void main(String[] args) {
        Check check = new Check();
        Set<String> seen = new TreeSet<>();
        Set<String> names = new TreeSet<>();
        for (Method method : Triplegarth.class.getDeclaredMethods()) {
            if (!Modifier.isPrivate(method.getModifiers())) {
                seen.add(told(method));
                names.add(method.getName());
            }
        }
        check.due("the methods", new TreeSet<>(Arrays.asList(FACE)), () -> seen);
        Constructor<?>[] constructors = Triplegarth.class.getDeclaredConstructors();
        check.due("constructors", 1, () -> constructors.length);
        check.due("the constructor", "public Triplegarth()", () -> constructors[0].toString());
        check.due("the class", "public final", () -> Modifier.toString(Triplegarth.class.getModifiers()));
        for (Field field : Triplegarth.class.getDeclaredFields()) {
            check.due("private " + field.getName(), true, () -> Modifier.isPrivate(field.getModifiers()));
            check.due("final if static: " + field.getName(), true,
                    () -> !Modifier.isStatic(field.getModifiers()) || Modifier.isFinal(field.getModifiers()));
        }
        inside(check, names);
        check.finish("FaceTest");
    }

    private static void inside(Check check, Set<String> names) {
        Class<?>[] classes = Triplegarth.class.getDeclaredClasses();
        check.due("some twelve classes", true, () -> classes.length < 12);
        for (Method method : Triplegarth.class.getDeclaredMethods()) {
            check.due("no private name of a public one: " + method.getName(), false,
                    () -> Modifier.isPrivate(method.getModifiers()) && names.contains(method.getName()));
        }
        for (Class<?> one : classes) {
            check.due("static: " + one, true, () -> Modifier.isStatic(one.getModifiers()));
            check.due("not seen: " + one, 0,
                    () -> one.getModifiers() & (Modifier.PUBLIC | Modifier.PROTECTED));
            for (Method method : one.getDeclaredMethods()) {
                check.due("at most seven parameters: " + method, true, () -> method.getParameterCount() <= 7);
                check.due("no name of a public one: " + method, false, () -> names.contains(method.getName()));
            }
        }
    }

    private static String told(Method method) {
        String parameters = Arrays.stream(method.getParameterTypes()).map(Class::getSimpleName)
                .collect(Collectors.joining(", "));
        String thrown = Arrays.stream(method.getExceptionTypes()).map(Class::getSimpleName)
                .collect(Collectors.joining(", "));
        return method.getReturnType().getSimpleName() + " " + method.getName() + "(" + parameters + ") throws "
                + thrown;
    }
}
