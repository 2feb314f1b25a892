import java.lang.reflect.Constructor;
import java.lang.reflect.Field;
import java.lang.reflect.Method;
import java.lang.reflect.Modifier;
import java.util.Arrays;
import java.util.Set;
import java.util.TreeSet;

/** The class shows just the face that the document gives it. */
public final class FaceTest {
    private static final String[] FACE = {
        "public static final int NONE",
        "public PromotedNumbers()",
        "public boolean type(long)",
        "public int erase()",
        "public int fault()",
        "public int work() throws IllegalArgumentException,UnsupportedOperationException,ArithmeticException,"
            + "IllegalStateException",
        "public int keep(int) throws IndexOutOfBoundsException,IllegalArgumentException,"
            + "UnsupportedOperationException,ArithmeticException,IllegalStateException",
        "public int form()",
        "public int sign()",
        "public char digit(int)",
        "public int bits(int,int)",
        "public int against(int) throws IndexOutOfBoundsException",
        "public int fetch(int) throws IndexOutOfBoundsException",
    };

    private FaceTest() {
    }

    public static void main(String[] args) {
        Check.sentence("The public face", "public final class PromotedNumbers");
        Class<?> face = PromotedNumbers.class;
        Check.due("public and final", Modifier.toString(face.getModifiers()), "public final");
        Set<String> shown = new TreeSet<>();
        for (Field field : face.getDeclaredFields()) {
            show(shown, field.getModifiers(), field.toString());
        }
        for (Constructor<?> constructor : face.getDeclaredConstructors()) {
            show(shown, constructor.getModifiers(), constructor.toString());
        }
        for (Method method : face.getDeclaredMethods()) {
            show(shown, method.getModifiers(), method.toString());
        }
        Check.sentence("The public face", "its members, and the exceptions that a call names");
        Check.due("the face", shown.toString(), new TreeSet<>(Arrays.asList(FACE)).toString());
        classesInside(face);
        privateNames(face);
        Check.end();
    }

    private static void classesInside(Class<?> face) {
        Check.sentence("LANGUAGE.md, rule 1", "the classes inside it, which are private or package-visible and static");
        for (Class<?> inside : face.getDeclaredClasses()) {
            int modifiers = inside.getModifiers();
            Check.due(inside + " is static", Modifier.isStatic(modifiers), true);
            Check.due(inside + " is shown", Modifier.isPublic(modifiers) || Modifier.isProtected(modifiers), false);
        }
    }

    private static void privateNames(Class<?> face) {
        Check.sentence("LANGUAGE.md, rule 1", "No private method bears the name of a public one");
        Set<String> names = new TreeSet<>();
        for (Method method : face.getMethods()) {
            names.add(method.getName());
        }
        for (Method method : face.getDeclaredMethods()) {
            if (Modifier.isPrivate(method.getModifiers())) {
                Check.due(method.getName() + " is a public name", names.contains(method.getName()), false);
            }
        }
    }

    private static void show(Set<String> shown, int modifiers, String member) {
        if (!Modifier.isPrivate(modifiers)) {
            shown.add(member.replace("java.lang.", "").replace("PromotedNumbers.", ""));
        }
    }
}
