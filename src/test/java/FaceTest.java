import java.lang.reflect.Constructor;
import java.lang.reflect.Field;
import java.lang.reflect.Method;
import java.lang.reflect.Modifier;
import java.util.ArrayList;
import java.util.Arrays;
import java.util.List;

/** The public face is that of the document, and no more; no state is shared between towns. */
public final class FaceTest {
    private static final String[] FACE = {
        "int bed(int, int) IllegalArgumentException, IllegalStateException",
        "int drum(int, int) IllegalArgumentException, IllegalStateException",
        "int smuggler(int, int) IllegalArgumentException, IllegalStateException",
        "int card(int, int) IllegalArgumentException, IllegalStateException",
        "int setPatrol(int) IllegalArgumentException",
        "int setShare(int) IllegalArgumentException",
        "int setHeat(int, int) IndexOutOfBoundsException, IllegalArgumentException",
        "int dig(int, int) IndexOutOfBoundsException, IllegalArgumentException, IllegalStateException",
        "int give(int, int) IndexOutOfBoundsException, IllegalArgumentException",
        "int load(int, int, int) IndexOutOfBoundsException, IllegalArgumentException, IllegalStateException",
        "int take(int) IndexOutOfBoundsException, IllegalStateException",
        "int send(int) IndexOutOfBoundsException, IllegalStateException",
        "int about(int, int) IndexOutOfBoundsException",
        "int roast(int, int) IndexOutOfBoundsException",
        "int told(int, int) IndexOutOfBoundsException",
        "int ration(int, int) IndexOutOfBoundsException",
        "int count(int) IndexOutOfBoundsException",
        "int pass(int) IllegalArgumentException",
        "int foresee(int, int) IllegalArgumentException, IndexOutOfBoundsException",
        "int ready(int) IndexOutOfBoundsException",
        "boolean caught(int, int) IndexOutOfBoundsException, IllegalArgumentException, IllegalStateException",
        "int advise(int) IllegalArgumentException",
        "double mean() ",
        "long digest() ",
    };

    private FaceTest() {
    }

    public static void main(String[] args) {
        theFaceIsThere();
        restIsPrivate();
        noStateIsShared();
        Check.finish("FaceTest");
    }

    private static void theFaceIsThere() {
        int modifiers = ChicoryRoasters.class.getModifiers();
        Check.verdict(Modifier.isPublic(modifiers) && Modifier.isFinal(modifiers), "the class is public and final");
        Constructor<?>[] constructors = ChicoryRoasters.class.getDeclaredConstructors();
        Check.due("number of constructors", constructors.length, 1);
        Check.due("parameters of the constructor", constructors[0].getParameterCount(), 0);
        Check.verdict(Modifier.isPublic(constructors[0].getModifiers()), "the constructor is public");
        List<String> got = new ArrayList<>();
        for (Method method : ChicoryRoasters.class.getDeclaredMethods()) {
            if (Modifier.isPublic(method.getModifiers())) {
                Check.verdict(!Modifier.isStatic(method.getModifiers()), method + " is not static");
                got.add(written(method));
            }
        }
        for (String want : FACE) {
            Check.verdict(got.contains(want), "the face lacks " + want);
        }
        Check.due("number of public methods", got.size(), FACE.length);
    }

    private static String written(Method method) {
        return method.getReturnType().getSimpleName() + " " + method.getName()
                + "(" + names(method.getParameterTypes()) + ") " + names(method.getExceptionTypes());
    }

    private static String names(Class<?>[] types) {
        return String.join(", ", Arrays.stream(types).map(Class::getSimpleName).toList());
    }

    private static void restIsPrivate() {
        List<String> face = Arrays.stream(FACE).map(line -> line.split("[ (]")[1]).toList();
        for (Method method : ChicoryRoasters.class.getDeclaredMethods()) {
            int modifiers = method.getModifiers();
            if (!Modifier.isPublic(modifiers)) {
                Check.verdict(Modifier.isPrivate(modifiers), method + " is private");
                Check.verdict(!face.contains(method.getName()), method + " has a name of its own");
            }
        }
        for (Field field : ChicoryRoasters.class.getDeclaredFields()) {
            Check.verdict(Modifier.isPrivate(field.getModifiers()), field + " is private");
        }
        for (Class<?> inside : ChicoryRoasters.class.getDeclaredClasses()) {
            int modifiers = inside.getModifiers();
            Check.verdict(Modifier.isStatic(modifiers), inside + " is static");
            Check.verdict(!Modifier.isPublic(modifiers) && !Modifier.isProtected(modifiers), inside + " is hidden");
        }
    }

    private static void noStateIsShared() {
        List<Class<?>> classes = new ArrayList<>(Arrays.asList(ChicoryRoasters.class.getDeclaredClasses()));
        classes.add(ChicoryRoasters.class);
        for (Class<?> one : classes) {
            for (Field field : one.getDeclaredFields()) {
                int modifiers = field.getModifiers();
                Check.verdict(!Modifier.isStatic(modifiers) || Modifier.isFinal(modifiers), field + " is final");
            }
        }
    }
}
