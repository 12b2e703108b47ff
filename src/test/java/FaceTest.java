import java.lang.reflect.Constructor;
import java.lang.reflect.Field;
import java.lang.reflect.Method;
import java.lang.reflect.Modifier;
import java.util.Arrays;
import java.util.List;
import java.util.Set;
import java.util.TreeSet;
import java.util.stream.Collectors;

/** The public face: what the document shows, and no other member that is not private. */
public final class FaceTest {
    private static final List<String> METHODS = List.of(
        "int append(long) IllegalStateException",
        "int insert(int,long) IllegalArgumentException,IllegalStateException",
        "int removeAt(int) IndexOutOfBoundsException",
        "long setValue(int,long) IndexOutOfBoundsException",
        "int swap(int) IndexOutOfBoundsException",
        "int setBound(int) IllegalArgumentException",
        "int setOrder(boolean) ",
        "int setSelf(boolean) ",
        "int step() ",
        "int mend() ",
        "int search(long) ",
        "long at(int) IndexOutOfBoundsException",
        "int element(int,int) IndexOutOfBoundsException,IllegalArgumentException",
        "long ranked(int) IndexOutOfBoundsException",
        "long broken() ",
        "int whole(int) IllegalArgumentException",
        "int found(long,int) IllegalArgumentException",
        "int worstSearch() ",
        "int stepsFor(int) IllegalArgumentException",
        "int bestPlace(long) ",
        "int rankOf(long) ",
        "int lostValues() ",
        "int type(int) IllegalArgumentException,IllegalStateException",
        "int clearCommands() ",
        "int runCommands() ",
        "int undo() IllegalStateException",
        "long digest() ");

    private FaceTest() {
    }

    public static void main(String[] args) {
        Set<String> open = new TreeSet<>();
        Set<String> names = new TreeSet<>();
        for (Method method : NearRanks.class.getDeclaredMethods()) {
            if (!Modifier.isPrivate(method.getModifiers()) && !method.isSynthetic()) {
                open.add(faceOf(method));
                names.add(method.getName());
            }
        }
        Kit.due("the methods", open.toString(), new TreeSet<>(METHODS).toString());
        for (Field field : NearRanks.class.getDeclaredFields()) {
            boolean wanted = field.getName().equals("NONE");
            Kit.due(field.getName() + " is public", isPublicConstant(field) + "", wanted + "");
            Kit.due(field.getName() + " is private",
                Modifier.isPrivate(field.getModifiers()) + "", !wanted + "");
        }
        Constructor<?>[] constructors = NearRanks.class.getDeclaredConstructors();
        Kit.due("the constructors", Arrays.toString(constructors), "[public NearRanks()]");
        Kit.due("the class", Modifier.toString(NearRanks.class.getModifiers()), "public final");
        noPrivateMethodIsCalledAsAPublicOne(names);
        Kit.end();
    }

    private static String faceOf(Method method) {
        return method.getReturnType() + " " + method.getName() + "("
            + namesOf(method.getParameterTypes()) + ") " + namesOf(method.getExceptionTypes());
    }

    private static String namesOf(Class<?>[] classes) {
        return Arrays.stream(classes).map(Class::getSimpleName).collect(Collectors.joining(","));
    }

    private static boolean isPublicConstant(Field field) {
        return Modifier.toString(field.getModifiers()).equals("public static final");
    }

    private static void noPrivateMethodIsCalledAsAPublicOne(Set<String> names) {
        for (Method method : NearRanks.class.getDeclaredMethods()) {
            if (Modifier.isPrivate(method.getModifiers())) {
                Kit.due(method.getName() + " is a name of its own",
                    !names.contains(method.getName()) + "", "true");
            }
        }
        for (Class<?> inside : NearRanks.class.getDeclaredClasses()) {
            for (Method method : inside.getDeclaredMethods()) {
                Kit.due(method.getName() + " is a name of its own",
                    !names.contains(method.getName()) + "", "true");
            }
        }
    }
}
