import java.lang.reflect.Constructor;
import java.lang.reflect.Field;
import java.lang.reflect.Method;
import java.lang.reflect.Modifier;
import java.util.Set;
import java.util.TreeSet;

/** The class shows the document's face and nothing else. */
public final class FaceTest {
    private static final Set<String> FACE = Set.of(
        "int NONE",
        "TestsFromUse()",
        "int branch(int,int,int,int)",
        "boolean change(int,int,int,int)",
        "int call(int,int)",
        "int fresh()",
        "int logged(int,int)",
        "int make(int)",
        "boolean drop(int)",
        "int told(int,int)",
        "int row(int,int,int)",
        "int differs(int)",
        "int run()",
        "boolean accept(int)",
        "int reached()",
        "int never()",
        "int fewest()",
        "int chosen()",
        "int register(int)",
        "int count(int)");

    public static void main(String[] args) {
        Class<?> face = TestsFromUse.class;
        Check.due("public and final", face.getModifiers(), Modifier.PUBLIC | Modifier.FINAL);
        Set<String> shown = new TreeSet<>();
        for (Field field : face.getDeclaredFields()) {
            if (isShown(field.getModifiers(), field.isSynthetic())) {
                shown.add(field.getType() + " " + field.getName());
            }
        }
        for (Constructor<?> constructor : face.getDeclaredConstructors()) {
            if (isShown(constructor.getModifiers(), constructor.isSynthetic())) {
                shown.add(constructor.getName() + parameters(constructor.getParameterTypes()));
            }
        }
        for (Method method : face.getDeclaredMethods()) {
            if (isShown(method.getModifiers(), method.isSynthetic())) {
                shown.add(method.getReturnType() + " " + method.getName() + parameters(method.getParameterTypes()));
            }
        }
        for (String member : FACE) {
            Check.due("there is " + member, shown.contains(member), true);
        }
        for (String member : shown) {
            Check.due("the document has " + member, FACE.contains(member), true);
        }
        Check.end();
    }

    private static boolean isShown(int modifiers, boolean synthetic) {
        return !Modifier.isPrivate(modifiers) && !synthetic;
    }

    private static String parameters(Class<?>[] types) {
        StringBuilder text = new StringBuilder("(");
        for (Class<?> type : types) {
            text.append(text.length() == 1 ? "" : ",").append(type);
        }
        return text.append(")").toString();
    }
}
