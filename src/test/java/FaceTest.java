import java.lang.reflect.Constructor;
import java.lang.reflect.Field;
import java.lang.reflect.Method;
import java.lang.reflect.Modifier;
import java.util.Arrays;
import java.util.Set;
import java.util.TreeSet;

/** The class shows the document's face and nothing more, and holds no state that objects share. */
public final class FaceTest {
    private static final Set<String> FACE = new TreeSet<>(Arrays.asList(
        "boolean type(int,int,int)", "int add(int,int,int,int)", "int clear()", "boolean start(int)",
        "int run(int) throws java.lang.IllegalStateException,java.lang.IndexOutOfBoundsException,"
            + "java.lang.IllegalArgumentException,java.lang.UnsupportedOperationException",
        "int next()", "int open()", "int frame(int)", "boolean set(int,int)", "int root(int)", "int blocks()",
        "int count(int)", "int typeOf(int)", "long word(int,int)", "int given()", "int lost()", "int collect()"));

    public static void main(String[] args) {
        Check check = new Check();
        check.about("face");
        checkClass(check);
        checkMethods(check);
        checkFields(check);
        checkNested(check);
        check.done();
    }

    private static void checkClass(Check check) {
        int modifiers = CountedHeap.class.getModifiers();
        check.is("public final class", Modifier.isPublic(modifiers) && Modifier.isFinal(modifiers), true);
        check.is("superclass", CountedHeap.class.getSuperclass().getName(), "java.lang.Object");
        check.is("interfaces", CountedHeap.class.getInterfaces().length, 0);
        Constructor<?>[] constructors = CountedHeap.class.getDeclaredConstructors();
        check.is("constructors", constructors.length, 1);
        check.is("constructor", constructors[0].toString(), "public CountedHeap()");
    }

    private static void checkMethods(Check check) {
        Set<String> seen = new TreeSet<>();
        Set<String> publicNames = new TreeSet<>();
        for (Method method : CountedHeap.class.getDeclaredMethods()) {
            if (!Modifier.isPrivate(method.getModifiers())) {
                check.is(method.getName() + " is public and no static",
                    method.getModifiers() == Modifier.PUBLIC, true);
                seen.add(method.toString().replace("public ", "").replace("CountedHeap.", ""));
                publicNames.add(method.getName());
            }
        }
        check.is("visible methods", seen.toString(), FACE.toString());
        for (Method method : CountedHeap.class.getDeclaredMethods()) {
            check.is(method.getName() + " is private with a public one's name",
                Modifier.isPrivate(method.getModifiers()) && publicNames.contains(method.getName()), false);
        }
    }

    private static void checkFields(Check check) {
        for (Field field : CountedHeap.class.getDeclaredFields()) {
            int modifiers = field.getModifiers();
            check.is(field.getName() + " is private", Modifier.isPrivate(modifiers), true);
            check.is(field.getName() + " is static and changes",
                Modifier.isStatic(modifiers) && !Modifier.isFinal(modifiers), false);
        }
    }

    private static void checkNested(Check check) {
        for (Class<?> nested : CountedHeap.class.getDeclaredClasses()) {
            int modifiers = nested.getModifiers();
            check.is(nested.getName() + " is static", Modifier.isStatic(modifiers), true);
            check.is(nested.getName() + " is seen from outside",
                Modifier.isPublic(modifiers) || Modifier.isProtected(modifiers), false);
        }
    }
}
