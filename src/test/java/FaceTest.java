import java.lang.reflect.Constructor;
import java.lang.reflect.Field;
import java.lang.reflect.Method;
import java.lang.reflect.Modifier;
import java.util.Arrays;
import java.util.Set;
import java.util.TreeSet;

/** The class has the document's face, and nothing else that others could reach. */
public final class FaceTest {
    private static final String INDEX = " throws java.lang.IndexOutOfBoundsException";
    private static final String ARGUMENT = "java.lang.IllegalArgumentException";
    private static final String STATE = "java.lang.IllegalStateException";

    private static final String[] FACE = {
        "boolean write(int,int)" + INDEX + "," + ARGUMENT,
        "boolean strike(int)" + INDEX,
        "int bind()",
        "int merge(int)" + INDEX + "," + STATE,
        "int setRoom(int) throws " + ARGUMENT,
        "int read(int)" + INDEX,
        "int detours(int)" + INDEX,
        "int next(int)" + INDEX,
        "int sum(int,int)" + INDEX + "," + ARGUMENT,
        "int run(int,int,int)" + INDEX,
        "int slip(int,int,int)" + INDEX,
        "int desk(int)" + INDEX,
        "int level(int,int)" + INDEX,
        "int count(int)" + INDEX,
        "int spares(int)" + INDEX,
        "int advise()",
        "double mean()",
        "long digest()",
    };

    private static int wrong = 0;

    private static void need(boolean holds, String what) {
        if (!holds) {
            wrong++;
            System.out.println(what);
        }
    }

    private static boolean isPrivate(int modifiers) {
        return Modifier.isPrivate(modifiers);
    }

    private static void methods() {
        Set<String> due = new TreeSet<>();
        Set<String> publicNames = new TreeSet<>();
        for (String method : FACE) {
            due.add("public " + method);
            publicNames.add(method.substring(method.indexOf(' ') + 1, method.indexOf('(')));
        }
        Set<String> got = new TreeSet<>();
        for (Method method : SlipLevels.class.getDeclaredMethods()) {
            if (isPrivate(method.getModifiers())) {
                need(!publicNames.contains(method.getName()), "a private method has a public name: " + method);
            } else {
                got.add(method.toGenericString().replace("SlipLevels.", "").replace(", ", ","));
            }
        }
        need(got.equals(due), "the face is " + got + ", due is " + due);
    }

    private static void othersArePrivate() {
        for (Field field : SlipLevels.class.getDeclaredFields()) {
            need(isPrivate(field.getModifiers()), "not private: " + field);
        }
        Constructor<?>[] constructors = SlipLevels.class.getDeclaredConstructors();
        need(constructors.length == 1 && Modifier.isPublic(constructors[0].getModifiers())
            && constructors[0].getParameterCount() == 0, "constructors: " + Arrays.toString(constructors));
        for (Class<?> inside : SlipLevels.class.getDeclaredClasses()) {
            int modifiers = inside.getModifiers();
            need(!Modifier.isPublic(modifiers) && !Modifier.isProtected(modifiers)
                && Modifier.isStatic(modifiers), "neither private nor static: " + inside);
        }
    }

    public static void main(String[] args) {
        int modifiers = SlipLevels.class.getModifiers();
        need(Modifier.isPublic(modifiers) && Modifier.isFinal(modifiers), "the class is not public and final");
        need(SlipLevels.class.getPackageName().isEmpty(), "the class stands in a package");
        methods();
        othersArePrivate();
        System.out.println(wrong == 0 ? "the face is as due" : wrong + " faults of the face");
        if (wrong != 0) {
            System.exit(1);
        }
    }
}
