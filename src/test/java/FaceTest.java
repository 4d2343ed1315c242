import java.lang.reflect.Constructor;
import java.lang.reflect.Field;
import java.lang.reflect.Member;
import java.lang.reflect.Method;
import java.lang.reflect.Modifier;
import java.util.Arrays;
import java.util.Set;
import java.util.TreeSet;

/** The face is the document's, and nothing beside it can be seen. */
final class FaceTest {
    private static final String THROWS =
        " throws java.lang.IndexOutOfBoundsException java.lang.IllegalStateException";
    private static final Set<String> FACE = new TreeSet<>(Arrays.asList(
        "int object()", "int section(int,int,int,int,int)", "int patch(int,int,int)", "int mark(int,int,int)",
        "int symbol(int,int,int,int,int)", "int relocation(int,int,int,int,int)", "int root(int)",
        "int base(int,int)", "int link(boolean)", "int fault()", "int kept(int,int)", "long place(int)" + THROWS,
        "long value(int)" + THROWS, "int octet(long)", "long range(int,boolean)" + THROWS, "int veneers(int)",
        "int count(int)"));

    private static final Set<String> CONSTANTS = new TreeSet<>(Arrays.asList(
        "public static final int NONE", "public static final int UNKNOWN", "public static final int OUTSIDE",
        "public static final int STATE", "public static final int ROOM"));

    public static void main(String[] args) {
        Due due = new Due("face");
        due.is("NONE", SectionGarden.NONE, -1);
        due.is("UNKNOWN", SectionGarden.UNKNOWN, -101);
        due.is("OUTSIDE", SectionGarden.OUTSIDE, -102);
        due.is("STATE", SectionGarden.STATE, -103);
        due.is("ROOM", SectionGarden.ROOM, -104);
        int modifiers = SectionGarden.class.getModifiers();
        due.is("public final", Modifier.isPublic(modifiers) && Modifier.isFinal(modifiers) ? 1 : 0, 1);

        Set<String> methods = new TreeSet<>();
        for (Method method : SectionGarden.class.getDeclaredMethods()) {
            if (isSeen(method)) {
                methods.add(signature(method));
                due.is(method.getName() + " is public", Modifier.isPublic(method.getModifiers()) ? 1 : 0, 1);
                due.is(method.getName() + " is static", Modifier.isStatic(method.getModifiers()) ? 1 : 0, 0);
            }
        }
        due.is("the methods are the document's: " + methods, methods.equals(FACE) ? 1 : 0, 1);
        Set<String> constants = new TreeSet<>();
        for (Field field : SectionGarden.class.getDeclaredFields()) {
            if (isSeen(field)) {
                constants.add(Modifier.toString(field.getModifiers()) + " " + field.getType() + " " + field.getName());
            }
        }
        due.is("the constants are the document's: " + constants, constants.equals(CONSTANTS) ? 1 : 0, 1);
        Constructor<?>[] constructors = SectionGarden.class.getDeclaredConstructors();
        due.is("constructors", constructors.length, 1);
        due.is("parameters of the constructor", constructors[0].getParameterCount(), 0);
        due.is("a public constructor", Modifier.isPublic(constructors[0].getModifiers()) ? 1 : 0, 1);
        for (Class<?> inside : SectionGarden.class.getDeclaredClasses()) {
            int seen = inside.getModifiers() & (Modifier.PUBLIC | Modifier.PROTECTED);
            boolean fine = seen == 0 && Modifier.isStatic(inside.getModifiers());
            due.is(inside + " is static and not public", fine ? 1 : 0, 1);
        }
        due.end();
    }

    private static boolean isSeen(Member member) {
        return !Modifier.isPrivate(member.getModifiers()) && !member.isSynthetic();
    }

    private static String signature(Method method) {
        StringBuilder text = new StringBuilder(method.getReturnType() + " " + method.getName() + "(");
        for (int i = 0; i < method.getParameterCount(); i++) {
            text.append(i == 0 ? "" : ",").append(method.getParameterTypes()[i]);
        }
        text.append(")");
        for (int i = 0; i < method.getExceptionTypes().length; i++) {
            text.append(i == 0 ? " throws " : " ").append(method.getExceptionTypes()[i].getName());
        }
        return text.toString();
    }
}
