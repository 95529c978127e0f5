import java.lang.reflect.Constructor;
import java.lang.reflect.Field;
import java.lang.reflect.Method;
import java.lang.reflect.Modifier;
import java.util.Arrays;
import java.util.Set;
import java.util.TreeSet;

/** The class has the face that the document lists, and no other member that can be seen. */
public final class FaceTest {
    private static final String[] FACE = {
        "int feed(int,int,int,int,int) IllegalStateException",
        "int trim(int) IllegalArgumentException",
        "int read()",
        "int errorAt()",
        "int make(int,int,int) IllegalArgumentException IndexOutOfBoundsException IllegalStateException",
        "int formula(int,int) IndexOutOfBoundsException",
        "boolean isTrue(int,int) IndexOutOfBoundsException IllegalArgumentException",
        "int write(int) IndexOutOfBoundsException IllegalStateException",
        "int byteAt(int) IndexOutOfBoundsException",
        "int begin()",
        "int premise(int) IndexOutOfBoundsException IllegalStateException",
        "int assume(int) IndexOutOfBoundsException IllegalStateException",
        "int close() IllegalStateException",
        "int step(int,int,int,int,int) IllegalArgumentException IndexOutOfBoundsException IllegalStateException",
        "int undo() IllegalStateException",
        "int count(int) IndexOutOfBoundsException",
        "int line(int,int) IndexOutOfBoundsException",
        "int box(int,int) IndexOutOfBoundsException",
        "int fails(int) IndexOutOfBoundsException",
        "int hint(int,int) IndexOutOfBoundsException",
        "int end() IllegalStateException",
        "int theorem(int,int) IndexOutOfBoundsException",
        "int instance(int,int,int) IndexOutOfBoundsException",
        "double thrift()",
        "long digest()"
    };

    private static int wrong = 0;

    private static void check(boolean good, String what) {
        if (!good) {
            wrong++;
            System.out.println("face: " + what);
        }
    }

    private static String told(Method method) {
        StringBuilder text = new StringBuilder(method.getReturnType().getSimpleName());
        text.append(' ').append(method.getName()).append('(');
        String between = "";
        for (Class<?> type : method.getParameterTypes()) {
            text.append(between).append(type.getSimpleName());
            between = ",";
        }
        text.append(')');
        for (Class<?> type : method.getExceptionTypes()) {
            text.append(' ').append(type.getSimpleName());
        }
        return text.toString();
    }

    public static void main(String[] args) {
        Class<?> desk = ProofDesk.class;
        check(Modifier.isFinal(desk.getModifiers()) && Modifier.isPublic(desk.getModifiers()), "public final");
        check(desk.getPackageName().isEmpty(), "no package");
        Constructor<?>[] constructors = desk.getDeclaredConstructors();
        check(constructors.length == 1 && Modifier.isPublic(constructors[0].getModifiers())
                && constructors[0].getParameterCount() == 0, "one public constructor without parameters");
        Set<String> seen = new TreeSet<>();
        Set<String> names = new TreeSet<>();
        for (Method method : desk.getDeclaredMethods()) {
            if (!Modifier.isPrivate(method.getModifiers())) {
                check(Modifier.isPublic(method.getModifiers()), "hidden halfway: " + method);
                seen.add(told(method));
                names.add(method.getName());
            }
        }
        check(seen.equals(new TreeSet<>(Arrays.asList(FACE))), "the methods are " + seen);
        for (Field field : desk.getDeclaredFields()) {
            check(Modifier.isPrivate(field.getModifiers()), "visible: " + field);
        }
        checkPrivateNames(desk, names);
        for (Class<?> inside : desk.getDeclaredClasses()) {
            int modifiers = inside.getModifiers();
            check(Modifier.isStatic(modifiers) && !Modifier.isPublic(modifiers) && !Modifier.isProtected(modifiers),
                    "a class inside: " + inside);
            checkPrivateNames(inside, names);
        }
        System.out.println(wrong == 0 ? "the face is as due" : wrong + " faults of the face");
        if (wrong != 0) {
            System.exit(1);
        }
    }

    private static void checkPrivateNames(Class<?> of, Set<String> names) {
        for (Method method : of.getDeclaredMethods()) {
            check(Modifier.isPublic(method.getModifiers()) || !names.contains(method.getName()),
                    "bears the name of a public one: " + method);
        }
    }
}
