import java.lang.reflect.Constructor;
import java.lang.reflect.Member;
import java.lang.reflect.Method;
import java.lang.reflect.Modifier;
import java.util.Arrays;
import java.util.Set;
import java.util.TreeSet;

/** The class shows the document's face, and nothing else. */
public final class FaceTests {
    private static final String[] FACE = {
        "int addAssertion() IllegalStateException",
        "int addFact(int boolean int int) IndexOutOfBoundsException IllegalArgumentException IllegalStateException",
        "int addAtom(int boolean int int) IndexOutOfBoundsException IllegalArgumentException IllegalStateException",
        "int states(int) IndexOutOfBoundsException",
        "boolean follows(int int) IndexOutOfBoundsException",
        "boolean followsByHeaps(int int) IndexOutOfBoundsException",
        "int against(int int) IndexOutOfBoundsException NoSuchElementException",
        "int left(int int) IndexOutOfBoundsException NoSuchElementException",
        "int assign(int int) IllegalArgumentException IllegalStateException",
        "int load(int int) IllegalArgumentException IllegalStateException",
        "int store(int int) IllegalArgumentException IllegalStateException",
        "int make(int) IllegalArgumentException IllegalStateException",
        "int free(int) IllegalArgumentException IllegalStateException",
        "int follow(int int) IndexOutOfBoundsException UnsupportedOperationException IllegalStateException",
        "int choose(int int int int) IllegalArgumentException IndexOutOfBoundsException"
            + " UnsupportedOperationException IllegalStateException",
        "int repeat(boolean int int int int) IllegalArgumentException IndexOutOfBoundsException"
            + " UnsupportedOperationException IllegalStateException",
        "char prove(int int int) IndexOutOfBoundsException",
        "int wrongAt() NoSuchElementException",
        "int cameTo(int) IndexOutOfBoundsException NoSuchElementException",
        "int witness(int int int) IndexOutOfBoundsException NoSuchElementException",
        "int witnesses(int int int) IndexOutOfBoundsException",
        "long allStates()",
        "float provedShare() ArithmeticException",
        "double meanAtoms(int) IndexOutOfBoundsException ArithmeticException",
        "boolean isSound()",
    };

    private static int wrong = 0;

    private static void due(boolean isSo, String what) {
        if (!isSo) {
            wrong++;
            System.out.println(what);
        }
    }

    private static String told(Method method) {
        StringBuilder text = new StringBuilder(method.getReturnType().getSimpleName());
        text.append(' ').append(method.getName()).append('(');
        String gap = "";
        for (Class<?> type : method.getParameterTypes()) {
            text.append(gap).append(type.getSimpleName());
            gap = " ";
        }
        text.append(')');
        for (Class<?> type : method.getExceptionTypes()) {
            text.append(' ').append(type.getSimpleName());
        }
        return text.toString();
    }

    private static boolean isHidden(Member member) {
        return Modifier.isPrivate(member.getModifiers()) || member.isSynthetic();
    }

    public static void main(String[] args) {
        Set<String> due = new TreeSet<>(Arrays.asList(FACE));
        Set<String> names = new TreeSet<>();
        Set<String> shown = new TreeSet<>();
        for (Method method : Heapwitness.class.getDeclaredMethods()) {
            if (!isHidden(method)) {
                shown.add(told(method));
                names.add(method.getName());
                due(Modifier.isPublic(method.getModifiers()) && !Modifier.isStatic(method.getModifiers()),
                    "not public, or static: " + method);
            }
        }
        due(shown.equals(due), "the face is " + shown + "\n, due is " + due);
        for (Class<?> inside : Heapwitness.class.getDeclaredClasses()) {
            due(Modifier.isStatic(inside.getModifiers()) && !Modifier.isPublic(inside.getModifiers())
                && !Modifier.isProtected(inside.getModifiers()), "a class inside is not as it must be: " + inside);
            for (Method method : inside.getDeclaredMethods()) {
                due(!names.contains(method.getName()), "a method inside has a name of the face: " + method);
            }
        }
        for (Method method : Heapwitness.class.getDeclaredMethods()) {
            due(!Modifier.isPrivate(method.getModifiers()) || !names.contains(method.getName()),
                "a private method has a name of the face: " + method);
        }
        for (java.lang.reflect.Field field : Heapwitness.class.getDeclaredFields()) {
            due(isHidden(field), "a field is not private: " + field);
        }
        Constructor<?>[] constructors = Heapwitness.class.getDeclaredConstructors();
        due(constructors.length == 1 && Modifier.isPublic(constructors[0].getModifiers())
            && constructors[0].getParameterCount() == 0, "the constructors are " + Arrays.toString(constructors));
        due(Modifier.isPublic(Heapwitness.class.getModifiers()) && Modifier.isFinal(Heapwitness.class.getModifiers()),
            "the class is not public and final");
        System.out.println(wrong == 0 ? "the face is as due" : wrong + " things are not as due");
        if (wrong != 0) {
            System.exit(1);
        }
    }
}
