import java.lang.reflect.Constructor;
import java.lang.reflect.Field;
import java.lang.reflect.Method;
import java.lang.reflect.Modifier;
import java.util.ArrayList;
import java.util.Arrays;
import java.util.Collections;
import java.util.List;

/** The public face: what the document lists, and nothing beside it (LANGUAGE.md, rule 1). */
public final class FaceTest {

    private static final List<String> FACE = Arrays.asList(
        "int constants 1", "int product 2", "int arrow 2", "int union 2", "int meet 2", "int not 1",
        "int any 0", "int types 0", "boolean empty 1", "boolean within 2", "int compare 2",
        "boolean answers 3", "int constant 1", "int pair 2", "int function 1", "boolean belongs 2",
        "int match 4", "int sorts 1", "int cut 1");

    private static int wrong = 0;

    public static void main(String[] args) {
        Class<?> face = MeaningTypes.class;
        require(Modifier.isPublic(face.getModifiers()) && Modifier.isFinal(face.getModifiers()), "public and final");
        requireMethods(face);
        for (Field field : face.getDeclaredFields()) {
            require(Modifier.isPrivate(field.getModifiers()), "field " + field.getName() + " is private");
        }
        Constructor<?>[] constructors = face.getDeclaredConstructors();
        require(constructors.length == 1 && constructors[0].getParameterCount() == 0
            && Modifier.isPublic(constructors[0].getModifiers()), "one public constructor without parameters");
        requireNested(face);
        System.out.println(wrong == 0 ? "FaceTest: the face is as due" : "FaceTest: " + wrong + " wrong");
        if (wrong != 0) {
            System.exit(1);
        }
    }

    private static void require(boolean holds, String what) {
        if (!holds) {
            wrong++;
            System.out.println("not so: " + what);
        }
    }

    private static void requireMethods(Class<?> face) {
        List<String> found = new ArrayList<>();
        List<String> names = new ArrayList<>();
        for (Method method : face.getDeclaredMethods()) {
            if (Modifier.isPublic(method.getModifiers())) {
                found.add(method.getReturnType() + " " + method.getName() + " " + method.getParameterCount());
                names.add(method.getName());
                for (Class<?> parameter : method.getParameterTypes()) {
                    require(parameter == int.class, method.getName() + " takes ints");
                }
                require(!Modifier.isStatic(method.getModifiers()), method.getName() + " is of an object");
            }
        }
        List<String> due = new ArrayList<>(FACE);
        Collections.sort(found);
        Collections.sort(due);
        require(found.equals(due), "the methods " + found + " are " + due);
        for (Method method : face.getDeclaredMethods()) {
            if (!Modifier.isPublic(method.getModifiers())) {
                require(Modifier.isPrivate(method.getModifiers()), method.getName() + " is private");
                require(!names.contains(method.getName()), method.getName() + " is no name of the face");
            }
        }
    }

    private static void requireNested(Class<?> face) {
        for (Class<?> nested : face.getDeclaredClasses()) {
            int modifiers = nested.getModifiers();
            require(Modifier.isStatic(modifiers) && !Modifier.isPublic(modifiers) && !Modifier.isProtected(modifiers),
                nested.getName() + " is static and not public or protected");
        }
    }
}
