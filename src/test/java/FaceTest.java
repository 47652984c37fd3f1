import java.lang.reflect.Constructor;
import java.lang.reflect.Field;
import java.lang.reflect.Method;
import java.lang.reflect.Modifier;
import java.util.Arrays;
import java.util.Set;
import java.util.TreeSet;

/** The public face: just the document's constructor and methods, with what they may throw. */
public final class FaceTest {
    private static final String[] FACE = {
        "int feed(int,int,int,int,int) IndexOutOfBoundsException",
        "int end(int,int) IllegalArgumentException,IndexOutOfBoundsException",
        "int copy(int,int) IllegalArgumentException",
        "int resize(int,int) IllegalArgumentException",
        "int alter(int,int,int) IllegalArgumentException,IndexOutOfBoundsException",
        "int length(int) IllegalArgumentException",
        "long word(int,int) IllegalArgumentException,IndexOutOfBoundsException",
        "boolean same(int,int) IllegalArgumentException",
        "int dsaKeys(int) IllegalArgumentException,IllegalStateException,ArithmeticException",
        "int dsaSign(int,int) IllegalArgumentException,IllegalStateException,UnsupportedOperationException,"
            + "ArithmeticException",
        "boolean dsaVerify(int,int) IllegalArgumentException,IllegalStateException,UnsupportedOperationException,"
            + "ArithmeticException"
    };

    public static void main(String[] args) {
        Class<?> face = ModuleSigner.class;
        Check.isTrue("the class is public and final",
            Modifier.isPublic(face.getModifiers()) && Modifier.isFinal(face.getModifiers()));
        Check.same("methods", methods(face), new TreeSet<>(Arrays.asList(FACE)));
        Constructor<?>[] constructors = face.getDeclaredConstructors();
        Check.same("constructors", constructors.length, 1);
        Check.isTrue("the constructor is public and takes nothing",
            Modifier.isPublic(constructors[0].getModifiers()) && constructors[0].getParameterCount() == 0);
        for (Field field : face.getDeclaredFields()) {
            Check.isTrue("field " + field.getName() + " is private", Modifier.isPrivate(field.getModifiers()));
        }
        for (Class<?> inside : face.getDeclaredClasses()) {
            int modifiers = inside.getModifiers();
            Check.isTrue("class " + inside.getSimpleName() + " is static and not public", Modifier.isStatic(modifiers)
                && !Modifier.isPublic(modifiers) && !Modifier.isProtected(modifiers));
        }
        Check.finish("FaceTest");
    }

    private static Set<String> methods(Class<?> face) {
        Set<String> found = new TreeSet<>();
        for (Method method : face.getDeclaredMethods()) {
            if (!Modifier.isPrivate(method.getModifiers())) {
                found.add(method.getReturnType() + " " + method.getName() + "(" + names(method.getParameterTypes())
                    + ") " + names(method.getExceptionTypes()));
            }
        }
        return found;
    }

    private static String names(Class<?>[] types) {
        StringBuilder names = new StringBuilder();
        for (Class<?> type : types) {
            names.append(names.length() == 0 ? "" : ",").append(type.getSimpleName());
        }
        return names.toString();
    }
}
