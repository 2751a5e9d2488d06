import java.lang.reflect.Constructor;
import java.lang.reflect.Field;
import java.lang.reflect.Method;
import java.lang.reflect.Modifier;
import java.util.Arrays;
import java.util.TreeSet;
import java.util.stream.Collectors;

/** The face is the document's, with its signatures, and nothing besides. */
public final class FaceTest {
    private static final String[] METHODS = {
        "int addWord(long) IllegalArgumentException IllegalStateException",
        "int wordCount()",
        "long word(int) IndexOutOfBoundsException",
        "int weight(int) IndexOutOfBoundsException",
        "boolean areNeighbours(int, int) IndexOutOfBoundsException",
        "int open(int) IllegalArgumentException IllegalStateException",
        "int openWord(int) IndexOutOfBoundsException IllegalStateException",
        "int giveUp() IllegalStateException",
        "boolean isOpen()",
        "int lessonWord(int) IllegalStateException IndexOutOfBoundsException",
        "int wanted() IllegalStateException",
        "int done() IllegalStateException",
        "int strike(int, int) IndexOutOfBoundsException IllegalArgumentException"
            + " IllegalStateException",
        "int key(int, int) IndexOutOfBoundsException",
        "int pair(int, int, int) IndexOutOfBoundsException",
        "int weakest()",
        "int mistakes(int) IndexOutOfBoundsException",
        "int lessons()",
        "int lesson(int, int) IndexOutOfBoundsException",
        "int pace()",
        "boolean isPlateau()",
        "double accuracy()",
        "long digest()"};

    public static void main(String[] args) {
        Check check = new Check("FaceTest");
        check.promise("the public face");
        Class<TypingTutor> face = TypingTutor.class;
        TreeSet<String> methods = new TreeSet<>();
        TreeSet<String> publicNames = new TreeSet<>();
        TreeSet<String> privateNames = new TreeSet<>();
        for (Method method : face.getDeclaredMethods()) {
            if (Modifier.isPrivate(method.getModifiers())) {
                privateNames.add(method.getName());
            } else {
                methods.add(signatureOf(method));
                publicNames.add(method.getName());
            }
        }
        check.same("the methods", new TreeSet<>(Arrays.asList(METHODS)), methods);
        privateNames.retainAll(publicNames);
        check.same("private methods with public names", "[]", privateNames.toString());
        for (Field field : face.getDeclaredFields()) {
            check.is("private field " + field.getName(), true,
                Modifier.isPrivate(field.getModifiers()));
        }
        Constructor<?>[] constructors = face.getDeclaredConstructors();
        check.is("constructors", 1, constructors.length);
        check.same("the constructor", "public TypingTutor()", constructors[0].toString());
        check.same("the class", "public final", Modifier.toString(face.getModifiers()));
        check.end();
    }

    private static String signatureOf(Method method) {
        String arguments = Arrays.stream(method.getParameterTypes()).map(Class::getSimpleName)
            .collect(Collectors.joining(", "));
        String thrown = Arrays.stream(method.getExceptionTypes())
            .map(kind -> " " + kind.getSimpleName()).collect(Collectors.joining());
        boolean plain = Modifier.toString(method.getModifiers()).equals("public");
        return (plain ? "" : method.getModifiers() + " ") + method.getReturnType() + " "
            + method.getName() + "(" + arguments + ")" + thrown;
    }
}
