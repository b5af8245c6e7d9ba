import java.lang.reflect.Constructor;
import java.lang.reflect.Field;
import java.lang.reflect.Method;
import java.lang.reflect.Modifier;
import java.util.ArrayList;
import java.util.List;
import java.util.Set;
import java.util.TreeSet;

/** The public face: just the methods of the document, with the exceptions that it names, in its order. */
public final class FaceTest {
    private static final String BOUNDS = "IndexOutOfBoundsException";
    private static final String ARGUMENT = "IllegalArgumentException";
    private static final String STATE = "IllegalStateException";

    private static final Set<String> FACE = new TreeSet<>(List.of(
            face("int set", 1, ARGUMENT, STATE),
            face("int terms", 4, BOUNDS, ARGUMENT),
            face("int source", 5, BOUNDS, ARGUMENT, STATE),
            face("int version", 2, BOUNDS, ARGUMENT, STATE),
            face("int missing", 3, BOUNDS, ARGUMENT, STATE),
            face("int report", 4, BOUNDS, ARGUMENT),
            face("int harm", 3, BOUNDS),
            face("int ofSet", 2, BOUNDS, ARGUMENT),
            face("boolean isMadeOf", 6, BOUNDS),
            face("int contract", 6, BOUNDS, ARGUMENT, STATE),
            face("int end", 1, BOUNDS),
            face("int covered", 4, BOUNDS, ARGUMENT),
            face("int read", 5, BOUNDS, ARGUMENT, STATE),
            face("int preview", 3, BOUNDS, ARGUMENT, STATE),
            face("int ofRead", 2, BOUNDS, ARGUMENT),
            face("int ofReader", 2, BOUNDS, ARGUMENT),
            face("int bill", 1, BOUNDS),
            face("int pass", 1, ARGUMENT, STATE),
            face("int many", 1, ARGUMENT),
            face("double meanWorth", 0),
            face("int quote", 4, BOUNDS, ARGUMENT),
            face("int creditBy", 4, BOUNDS, ARGUMENT),
            face("int previews", 2, BOUNDS),
            face("int neededBy", 1, BOUNDS),
            face("long digest", 0)));

    private static int wrong = 0;

    public static void main(String[] args) {
        Class<DatamarketDesk> type = DatamarketDesk.class;
        due("the class is public and final", Modifier.isPublic(type.getModifiers())
                && Modifier.isFinal(type.getModifiers()));
        due("without a package", type.getPackageName().isEmpty());
        for (Field field : type.getDeclaredFields()) {
            due("private: " + field, Modifier.isPrivate(field.getModifiers()));
        }
        theConstructor(type);
        theMethods(type);
        theClassesInside(type);
        if (wrong != 0) {
            System.exit(1);
        }
        System.out.println("the face is as due");
    }

    private static void theConstructor(Class<?> type) {
        Constructor<?>[] constructors = type.getDeclaredConstructors();
        due("one constructor", constructors.length == 1);
        due("it is public", Modifier.isPublic(constructors[0].getModifiers()));
        due("it takes nothing", constructors[0].getParameterCount() == 0);
        due("it throws nothing", constructors[0].getExceptionTypes().length == 0);
    }

    private static void theMethods(Class<?> type) {
        Set<String> found = new TreeSet<>();
        Set<String> publicNames = new TreeSet<>();
        List<String> privateNames = new ArrayList<>();
        for (Method method : type.getDeclaredMethods()) {
            if (Modifier.isPrivate(method.getModifiers())) {
                privateNames.add(method.getName());
            } else {
                found.add(textOf(method));
                publicNames.add(method.getName());
            }
        }
        due("the methods: " + found, found.equals(FACE));
        for (String name : privateNames) {
            due("no private method bears the name " + name, !publicNames.contains(name));
        }
    }

    private static void theClassesInside(Class<?> type) {
        for (Class<?> inside : type.getDeclaredClasses()) {
            int modifiers = inside.getModifiers();
            due("static: " + inside, Modifier.isStatic(modifiers));
            due("private or package-visible: " + inside,
                    !Modifier.isPublic(modifiers) && !Modifier.isProtected(modifiers));
        }
    }

    private static String textOf(Method method) {
        List<String> thrown = new ArrayList<>();
        for (Class<?> one : method.getExceptionTypes()) {
            thrown.add(one.getSimpleName());
        }
        for (Class<?> parameter : method.getParameterTypes()) {
            due("only int is taken by " + method, parameter == int.class);
        }
        due("public, and of an object: " + method, method.getModifiers() == Modifier.PUBLIC);
        return face(method.getReturnType().getName() + " " + method.getName(), method.getParameterCount(),
                thrown.toArray(new String[0]));
    }

    private static String face(String typeAndName, int parameters, String... thrown) {
        return typeAndName + "/" + parameters + " throws " + String.join(", ", thrown);
    }

    private static void due(String what, boolean so) {
        if (!so) {
            wrong++;
            System.out.println("not so: " + what);
        }
    }
}
