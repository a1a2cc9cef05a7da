import java.lang.reflect.Constructor;
import java.lang.reflect.Field;
import java.lang.reflect.Method;
import java.lang.reflect.Modifier;
import java.util.Set;
import java.util.TreeSet;

/** The face of the class is the document's, and nothing else of it can be seen. */
public final class FaceTest {
    private static final String[] FACE = {
        "int make(int,int) IndexOutOfBoundsException IllegalArgumentException",
        "int lend(int,int) IndexOutOfBoundsException",
        "int length(int) IndexOutOfBoundsException",
        "int get(int,int) IndexOutOfBoundsException",
        "int put(int,int,int) IndexOutOfBoundsException",
        "int fill(int,int,int,int,int) IndexOutOfBoundsException",
        "boolean isLike(int,int) IndexOutOfBoundsException",
        "int write(int,int) IndexOutOfBoundsException IllegalStateException",
        "int writePart(int,int,int,int) IndexOutOfBoundsException IllegalStateException",
        "int writeRow(int,int) IndexOutOfBoundsException IllegalStateException",
        "int writeNumber(int,int) IndexOutOfBoundsException IllegalStateException",
        "int size(int) IndexOutOfBoundsException",
        "int empty(int) IndexOutOfBoundsException",
        "int take(int,int) IndexOutOfBoundsException",
        "int open(int,int) IndexOutOfBoundsException",
        "boolean isOpen(int) IndexOutOfBoundsException",
        "int read(int) IndexOutOfBoundsException UnsupportedOperationException",
        "int readPart(int,int,int,int) IndexOutOfBoundsException UnsupportedOperationException",
        "int readFull(int,int,int,int) IndexOutOfBoundsException UnsupportedOperationException"
            + " IllegalArgumentException",
        "int readSome(int,int,int) IndexOutOfBoundsException IllegalArgumentException"
            + " UnsupportedOperationException",
        "int readNumber(int) IndexOutOfBoundsException UnsupportedOperationException NoSuchElementException",
        "int readLine(int,int) IndexOutOfBoundsException UnsupportedOperationException",
        "int find(int,int) IndexOutOfBoundsException UnsupportedOperationException",
        "long skip(int,long) IndexOutOfBoundsException IllegalArgumentException UnsupportedOperationException",
        "int left(int) IndexOutOfBoundsException UnsupportedOperationException",
        "int mark(int,int) IndexOutOfBoundsException UnsupportedOperationException",
        "int back(int) IndexOutOfBoundsException UnsupportedOperationException",
        "int pour(int,int) IndexOutOfBoundsException UnsupportedOperationException IllegalStateException",
        "int pourParts(int,int,int) IndexOutOfBoundsException IllegalArgumentException"
            + " UnsupportedOperationException IllegalStateException",
        "int alike(int,int) IndexOutOfBoundsException IllegalArgumentException UnsupportedOperationException",
        "float leftShare(int) IndexOutOfBoundsException UnsupportedOperationException ArithmeticException",
        "double meanSize() ArithmeticException",
        "long checksum()",
        "boolean isTrue()",
    };

    private FaceTest() {
    }

    public static void main(String[] args) {
        classIsPublicAndFinal();
        publicMethodsAreTheFace();
        nothingElseIsSeen();
        staticFieldsAreFinal();
        Check.finish();
    }

    private static void classIsPublicAndFinal() {
        int modifiers = Bytewell.class.getModifiers();
        Check.due("public class", Modifier.isPublic(modifiers), true);
        Check.due("final class", Modifier.isFinal(modifiers), true);
        Constructor<?>[] constructors = Bytewell.class.getDeclaredConstructors();
        Check.due("constructors", constructors.length, 1);
        Check.due("its parameters", constructors[0].getParameterCount(), 0);
        Check.due("public constructor", Modifier.isPublic(constructors[0].getModifiers()), true);
    }

    private static void publicMethodsAreTheFace() {
        Set<String> seen = new TreeSet<>();
        for (Method method : Bytewell.class.getDeclaredMethods()) {
            if (Modifier.isPublic(method.getModifiers())) {
                seen.add(told(method));
            }
        }
        Check.due("the face", seen, new TreeSet<>(Set.of(FACE)));
    }

    private static String told(Method method) {
        StringBuilder text = new StringBuilder(method.getReturnType().getName());
        text.append(' ').append(method.getName()).append('(');
        String comma = "";
        for (Class<?> type : method.getParameterTypes()) {
            text.append(comma).append(type.getName());
            comma = ",";
        }
        text.append(')');
        for (Class<?> thrown : method.getExceptionTypes()) {
            text.append(' ').append(thrown.getSimpleName());
        }
        return text.toString();
    }

    private static void nothingElseIsSeen() {
        Set<String> names = new TreeSet<>();
        for (Method method : Bytewell.class.getDeclaredMethods()) {
            if (Modifier.isPublic(method.getModifiers())) {
                names.add(method.getName());
            }
        }
        for (Method method : Bytewell.class.getDeclaredMethods()) {
            int modifiers = method.getModifiers();
            if (!Modifier.isPublic(modifiers)) {
                Check.due("private " + method.getName(), Modifier.isPrivate(modifiers), true);
                Check.due("the name of " + method.getName(), names.contains(method.getName()), false);
            }
        }
        for (Class<?> inside : Bytewell.class.getDeclaredClasses()) {
            int modifiers = inside.getModifiers();
            Check.due(inside.getName() + " is static", Modifier.isStatic(modifiers), true);
            Check.due(inside.getName() + " is public or protected",
                Modifier.isPublic(modifiers) || Modifier.isProtected(modifiers), false);
        }
    }

    private static void staticFieldsAreFinal() {
        for (Field field : Bytewell.class.getDeclaredFields()) {
            int modifiers = field.getModifiers();
            Check.due("private " + field.getName(), Modifier.isPrivate(modifiers), true);
            Check.due("final " + field.getName(),
                Modifier.isFinal(modifiers) || !Modifier.isStatic(modifiers), true);
        }
    }
}
