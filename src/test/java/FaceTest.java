import java.lang.reflect.Constructor;
import java.lang.reflect.Field;
import java.lang.reflect.Member;
import java.lang.reflect.Method;
import java.lang.reflect.Modifier;
import java.util.Set;
import java.util.TreeSet;

/** The class shows the document's face and nothing else. */
public final class FaceTest {
    private static final Set<String> FACE = Set.of(
        "int NONE",
        "TestsFromUse()",
        "int branch(int,int,int,int)",
        "boolean change(int,int,int,int)",
        "int call(int,int)",
        "int fresh()",
        "int logged(int,int)",
        "int make(int)",
        "boolean drop(int)",
        "int told(int,int)",
        "int row(int,int,int)",
        "int differs(int)",
        "int run()",
        "boolean accept(int)",
        "int reached()",
        "int never()",
        "int fewest()",
        "int chosen()",
        "int register(int)",
        "int count(int)");

    public static void main(String[] args) {
        Class<?> face = TestsFromUse.class;
        Check.due("public and final", face.getModifiers(), Modifier.PUBLIC | Modifier.FINAL);
        Set<String> shown = shownMembers(face);
        for (String member : FACE) {
            Check.due("there is " + member, shown.contains(member), true);
        }
        for (String member : shown) {
            Check.due("the document has " + member, FACE.contains(member), true);
        }
        for (Class<?> inside : face.getDeclaredClasses()) {
            insideIsHiddenAndStatic(inside);
        }
        Check.end();
    }

    /** All members but the private ones; each of them has to be as public as the document says. */
    private static Set<String> shownMembers(Class<?> face) {
        Set<String> shown = new TreeSet<>();
        for (Field field : face.getDeclaredFields()) {
            if (isShown(field)) {
                shown.add(field.getType() + " " + field.getName());
                dueModifiers(field, Modifier.PUBLIC | Modifier.STATIC | Modifier.FINAL);
            }
        }
        for (Constructor<?> constructor : face.getDeclaredConstructors()) {
            if (isShown(constructor)) {
                shown.add(constructor.getName() + parameters(constructor.getParameterTypes()));
                dueModifiers(constructor, Modifier.PUBLIC);
            }
        }
        for (Method method : face.getDeclaredMethods()) {
            if (isShown(method)) {
                shown.add(method.getReturnType() + " " + method.getName() + parameters(method.getParameterTypes()));
                dueModifiers(method, Modifier.PUBLIC);
            }
        }
        return shown;
    }

    private static boolean isShown(Member member) {
        return !Modifier.isPrivate(member.getModifiers()) && !member.isSynthetic();
    }

    private static void dueModifiers(Member member, int due) {
        Check.due("modifiers of " + member.getName(), member.getModifiers(), due);
    }

    private static void insideIsHiddenAndStatic(Class<?> inside) {
        int modifiers = inside.getModifiers();
        Check.due(inside + " is static", Modifier.isStatic(modifiers), true);
        Check.due(inside + " is public", Modifier.isPublic(modifiers), false);
        Check.due(inside + " is protected", Modifier.isProtected(modifiers), false);
        for (Field field : inside.getDeclaredFields()) {
            if (Modifier.isStatic(field.getModifiers())) {
                Check.due(inside + "." + field.getName() + " is final", Modifier.isFinal(field.getModifiers()), true);
            }
        }
    }

    private static String parameters(Class<?>[] types) {
        StringBuilder text = new StringBuilder("(");
        for (Class<?> type : types) {
            text.append(text.length() == 1 ? "" : ",").append(type);
        }
        return text.append(")").toString();
    }
}
