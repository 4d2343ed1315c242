import java.lang.reflect.Constructor;
import java.lang.reflect.Field;
import java.lang.reflect.Member;
import java.lang.reflect.Method;
import java.lang.reflect.Modifier;
import java.util.Arrays;
import java.util.Set;
import java.util.TreeSet;

/** The face is the document's, and nothing beside it can be seen. */
final class FaceTest {
    private static final Set<String> FACE = new TreeSet<>(Arrays.asList(
        "int object()", "int section(int,int,int,int,int)", "int patch(int,int,int)", "int mark(int,int,int)",
        "int symbol(int,int,int,int,int)", "int relocation(int,int,int,int,int)", "int root(int)",
        "int base(int,int)", "int link(boolean)", "int fault()", "int kept(int,int)", "long place(int)",
        "long value(int)", "int octet(long)", "long range(int,boolean)", "int veneers(int)", "int count(int)"));

    public static void main(String[] args) {
        Due due = new Due("face");
        due.is("NONE", SectionGarden.NONE, -1);
        due.is("UNKNOWN", SectionGarden.UNKNOWN, -101);
        due.is("OUTSIDE", SectionGarden.OUTSIDE, -102);
        due.is("STATE", SectionGarden.STATE, -103);
        due.is("ROOM", SectionGarden.ROOM, -104);
        int modifiers = SectionGarden.class.getModifiers();
        due.is("public final", Modifier.isPublic(modifiers) && Modifier.isFinal(modifiers) ? 1 : 0, 1);

        Set<String> methods = new TreeSet<>();
        for (Method method : SectionGarden.class.getDeclaredMethods()) {
            if (isSeen(method)) {
                methods.add(signature(method));
            }
        }
        due.is("the methods are the document's: " + methods, methods.equals(FACE) ? 1 : 0, 1);
        int constants = 0;
        for (Field field : SectionGarden.class.getDeclaredFields()) {
            constants += isSeen(field) ? 1 : 0;
        }
        due.is("constants that can be seen", constants, 5);
        Constructor<?>[] constructors = SectionGarden.class.getDeclaredConstructors();
        due.is("constructors", constructors.length, 1);
        due.is("parameters of the constructor", constructors[0].getParameterCount(), 0);
        due.is("a public constructor", Modifier.isPublic(constructors[0].getModifiers()) ? 1 : 0, 1);
        for (Class<?> inside : SectionGarden.class.getDeclaredClasses()) {
            int seen = inside.getModifiers() & (Modifier.PUBLIC | Modifier.PROTECTED);
            boolean fine = seen == 0 && Modifier.isStatic(inside.getModifiers());
            due.is(inside + " is static and not public", fine ? 1 : 0, 1);
        }
        due.end();
    }

    private static boolean isSeen(Member member) {
        return !Modifier.isPrivate(member.getModifiers()) && !member.isSynthetic();
    }

    private static String signature(Method method) {
        StringBuilder text = new StringBuilder(method.getReturnType() + " " + method.getName() + "(");
        for (int i = 0; i < method.getParameterCount(); i++) {
            text.append(i == 0 ? "" : ",").append(method.getParameterTypes()[i]);
        }
        return text.append(")").toString();
    }
}
