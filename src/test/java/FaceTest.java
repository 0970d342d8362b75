import java.lang.reflect.Constructor;
import java.lang.reflect.Field;
import java.lang.reflect.Method;
import java.lang.reflect.Modifier;
import java.util.Set;
import java.util.TreeSet;

/** The class shows the document's face and nothing else. */
public final class FaceTest {
    private static final Set<String> FACE = Set.of(
            "int pointer(int)", "int array(int,int)", "int record(int)", "int field(int,int)",
            "int bits(int,int,int,boolean)", "boolean separate(int)", "int finish(int)", "int types()",
            "int size(int)", "int align(int)", "int members(int)", "int member(int,int,int)");

    public static void main(String[] args) {
        Sentences sentences = new Sentences();
        sentences.test("The public face: public final class LayoutDesk", FaceTest::theClass);
        sentences.test("The public face: public LayoutDesk()", FaceTest::constructors);
        sentences.test("The public face: the twelve methods and no others", FaceTest::methods);
        sentences.test("The public face: .. and no constants", FaceTest::fields);
        sentences.test("The public face: .. nor classes", FaceTest::classesInside);
        sentences.end();
    }

    private static void theClass(Check check) {
        int modifiers = LayoutDesk.class.getModifiers();
        check.due("public", Modifier.isPublic(modifiers), true);
        check.due("final", Modifier.isFinal(modifiers), true);
        check.due("without a package", LayoutDesk.class.getPackageName().isEmpty(), true);
        check.due("without a class above it", LayoutDesk.class.getSuperclass() == Object.class, true);
        check.due("interfaces", LayoutDesk.class.getInterfaces().length, 0);
    }

    private static void constructors(Check check) {
        Constructor<?>[] all = LayoutDesk.class.getDeclaredConstructors();
        check.due("constructors", all.length, 1);
        check.due("its parameters", all[0].getParameterCount(), 0);
        check.due("it is public", Modifier.isPublic(all[0].getModifiers()), true);
        check.due("its exceptions", all[0].getExceptionTypes().length, 0);
    }

    private static void methods(Check check) {
        Set<String> shown = new TreeSet<>();
        Set<String> shownNames = new TreeSet<>();
        for (Method method : LayoutDesk.class.getDeclaredMethods()) {
            if (!Modifier.isPrivate(method.getModifiers())) {
                shown.add(signature(method));
                shownNames.add(method.getName());
                check.due(method + " is public and the object's",
                        method.getModifiers(), Modifier.PUBLIC);
                check.due(method + " declares exceptions", method.getExceptionTypes().length, 0);
            }
        }
        check.due("the face is " + shown, shown.equals(new TreeSet<>(FACE)), true);
        for (Method method : LayoutDesk.class.getDeclaredMethods()) {
            if (Modifier.isPrivate(method.getModifiers())) {
                check.due("private " + method.getName() + " bears a public name",
                        shownNames.contains(method.getName()), false);
            }
        }
    }

    private static void fields(Check check) {
        for (Field field : LayoutDesk.class.getDeclaredFields()) {
            check.due(field + " is private", Modifier.isPrivate(field.getModifiers()), true);
            check.due(field + " is final", Modifier.isFinal(field.getModifiers()), true);
        }
    }

    private static void classesInside(Check check) {
        for (Class<?> inside : LayoutDesk.class.getDeclaredClasses()) {
            check.due(inside + " is static", Modifier.isStatic(inside.getModifiers()), true);
            check.due(inside + " is public or protected",
                    (inside.getModifiers() & (Modifier.PUBLIC | Modifier.PROTECTED)) != 0, false);
        }
    }

    private static String signature(Method method) {
        StringBuilder text = new StringBuilder(method.getReturnType() + " " + method.getName() + "(");
        String between = "";
        for (Class<?> type : method.getParameterTypes()) {
            text.append(between).append(type);
            between = ",";
        }
        return text.append(")").toString();
    }
}
