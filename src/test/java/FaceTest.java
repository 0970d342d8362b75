import java.lang.reflect.Constructor;
import java.lang.reflect.Field;
import java.lang.reflect.Method;
import java.lang.reflect.Modifier;
import java.util.Set;
import java.util.TreeSet;

/** The class shows the document's face and nothing else. */
public final class FaceTest {
    private static final Set<String> FACE = Set.of(
            "int pointer(int)", "int array(int,int)", "int record(int)", "int field(int,int)",
            "int bits(int,int,int,boolean)", "boolean separate(int)", "int finish(int)", "int types()",
            "int size(int)", "int align(int)", "int members(int)", "int member(int,int,int)");

    public static void main(String[] args) {
        Check check = new Check();
        int modifiers = LayoutDesk.class.getModifiers();
        check.due("public and final", Modifier.isPublic(modifiers) && Modifier.isFinal(modifiers), true);
        constructors(check);
        methods(check);
        fields(check);
        classesInside(check);
        check.end();
    }

    private static void constructors(Check check) {
        Constructor<?>[] all = LayoutDesk.class.getDeclaredConstructors();
        check.due("constructors", all.length, 1);
        check.due("its parameters", all[0].getParameterCount(), 0);
        check.due("it is public", Modifier.isPublic(all[0].getModifiers()), true);
    }

    private static void methods(Check check) {
        Set<String> shown = new TreeSet<>();
        Set<String> shownNames = new TreeSet<>();
        for (Method method : LayoutDesk.class.getDeclaredMethods()) {
            if (!Modifier.isPrivate(method.getModifiers())) {
                shown.add(signature(method));
                shownNames.add(method.getName());
                check.due(method + " is public and the object's",
                        method.getModifiers(), Modifier.PUBLIC);
            }
        }
        check.due("the face is " + shown, shown.equals(new TreeSet<>(FACE)), true);
        for (Method method : LayoutDesk.class.getDeclaredMethods()) {
            if (Modifier.isPrivate(method.getModifiers())) {
                check.due("private " + method.getName() + " bears a public name",
                        shownNames.contains(method.getName()), false);
            }
        }
    }

    private static void fields(Check check) {
        for (Field field : LayoutDesk.class.getDeclaredFields()) {
            check.due(field + " is private", Modifier.isPrivate(field.getModifiers()), true);
            check.due(field + " is final", Modifier.isFinal(field.getModifiers()), true);
        }
    }

    private static void classesInside(Check check) {
        for (Class<?> inside : LayoutDesk.class.getDeclaredClasses()) {
            check.due(inside + " is static", Modifier.isStatic(inside.getModifiers()), true);
            check.due(inside + " is public or protected",
                    (inside.getModifiers() & (Modifier.PUBLIC | Modifier.PROTECTED)) != 0, false);
        }
    }

    private static String signature(Method method) {
        StringBuilder text = new StringBuilder(method.getReturnType() + " " + method.getName() + "(");
        String between = "";
        for (Class<?> type : method.getParameterTypes()) {
            text.append(between).append(type);
            between = ",";
        }
        return text.append(")").toString();
    }
}
