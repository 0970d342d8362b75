import java.io.IOException;
import java.lang.reflect.Constructor;
import java.lang.reflect.Field;
import java.lang.reflect.Method;
import java.lang.reflect.Modifier;
import java.nio.file.Files;
import java.nio.file.Path;
import java.util.ArrayList;
import java.util.List;
import java.util.Set;
import java.util.regex.Matcher;
import java.util.regex.Pattern;

/** Those rules of LANGUAGE.md that can be seen in the words of the file and in its classes. */
public final class LanguageTest {
    private static final Path SOURCE = Path.of("src", "main", "java", "LayoutDesk.java");
    private static final Pattern COMMENT = Pattern.compile("/\\*.*?\\*/|//[^\\n]*", Pattern.DOTALL);
    private static final Pattern IMPORT = Pattern.compile("import ([^;]+);");
    private static final Pattern METHOD = Pattern.compile("^ +[\\w<>\\[\\] ]+\\([^;]*\\) \\{$");
    private static final Pattern LAMBDA = Pattern.compile("->|::");
    private static final Pattern CLASS_NAME = Pattern.compile("\\b([A-Z][a-zA-Z]*[a-z][a-zA-Z]*)\\b");
    private static final Pattern SYSTEM = Pattern.compile("\\bSystem\\.(?!arraycopy\\()");

    private static final Set<String> IMPORTS = Set.of("java.util.ArrayList", "java.util.List",
            "java.util.Arrays", "java.util.Iterator");
    private static final Set<String> LIBRARY_CLASSES = Set.of("ArrayList", "List", "Arrays", "Iterator",
            "Iterable", "Comparable", "Integer", "Long", "Math", "String", "StringBuilder", "System", "Override");
    private static final String[] NO_WORDS = {"throw", "throws", "try", "catch", "finally", "synchronized",
        "assert", "package", "protected", "volatile", "native", "transient", "equals", "hashCode", "toString"};

    public static void main(String[] args) throws IOException {
        String code = COMMENT.matcher(Files.readString(SOURCE)).replaceAll("");
        Sentences sentences = new Sentences();
        sentences.test("LANGUAGE 2: static classes inside, no lambda, no method reference", check -> inside(check, code));
        sentences.test("LANGUAGE 4: the library: only what stands there", check -> library(check, code));
        sentences.test("LANGUAGE 5: static fields are constants", LanguageTest::constants);
        sentences.test("LANGUAGE 6: words that it may not hold", check -> words(check, code));
        sentences.test("LANGUAGE 11: parameters, fields and classes", LanguageTest::numbers);
        sentences.test("LANGUAGE 11: methods stay short", check -> lengths(check, code));
        sentences.end();
    }

    private static List<Class<?>> classes() {
        List<Class<?>> classes = new ArrayList<>();
        classes.add(LayoutDesk.class);
        for (int i = 0; i < classes.size(); i++) {
            classes.addAll(List.of(classes.get(i).getDeclaredClasses()));
        }
        return classes;
    }

    private static void inside(Check check, String code) {
        for (Class<?> one : classes()) {
            check.due(one + " is static", one == LayoutDesk.class || Modifier.isStatic(one.getModifiers()), true);
            check.due(one + " is public", one != LayoutDesk.class && Modifier.isPublic(one.getModifiers()), false);
        }
        check.due("a lambda or a method reference", LAMBDA.matcher(code).find(), false);
    }

    private static void library(Check check, String code) {
        Matcher imported = IMPORT.matcher(code);
        while (imported.find()) {
            check.due("import " + imported.group(1), IMPORTS.contains(imported.group(1)), true);
        }
        List<String> own = classes().stream().map(Class::getSimpleName).toList();
        Matcher name = CLASS_NAME.matcher(code);
        while (name.find()) {
            String found = name.group(1);
            check.due("the class " + found, own.contains(found) || LIBRARY_CLASSES.contains(found), true);
        }
        check.due("System but for arraycopy", SYSTEM.matcher(code).find(), false);
        check.due("a name that ends in Exact", code.contains("Exact("), false);
    }

    private static void constants(Check check) {
        Set<Class<?>> kinds = Set.of(int.class, long.class, boolean.class, char.class, String.class,
                int[].class, long[].class, char[].class, byte[].class);
        for (Class<?> one : classes()) {
            for (Field field : one.getDeclaredFields()) {
                if (Modifier.isStatic(field.getModifiers())) {
                    check.due(field + " is final", Modifier.isFinal(field.getModifiers()), true);
                    check.due(field + " is of a kind that may be", kinds.contains(field.getType()), true);
                }
            }
        }
    }

    private static void words(Check check, String code) {
        for (String word : NO_WORDS) {
            check.due("the word " + word, Pattern.compile("\\b" + word + "\\b").matcher(code).find(), false);
        }
    }

    private static void numbers(Check check) {
        List<Class<?>> classes = classes();
        check.due("more than 12 classes", classes.size() > 12, false);
        for (Class<?> one : classes) {
            int fields = 0;
            for (Field field : one.getDeclaredFields()) {
                fields += Modifier.isStatic(field.getModifiers()) ? 0 : 1;
            }
            check.due("more than 20 fields in " + one, fields > 20, false);
            for (Method method : one.getDeclaredMethods()) {
                check.due("more than 7 parameters of " + method, method.getParameterCount() > 7, false);
            }
            for (Constructor<?> constructor : one.getDeclaredConstructors()) {
                check.due("more than 7 parameters of " + constructor, constructor.getParameterCount() > 7, false);
            }
        }
    }

    /** A method ends where a brace stands as deep as its own first line. */
    private static void lengths(Check check, String code) {
        String[] lines = code.split("\n");
        int methods = 0;
        for (int i = 0; i < lines.length; i++) {
            if (METHOD.matcher(lines[i]).matches() && !lines[i].contains(" if (") && !lines[i].contains(" for (")) {
                String end = " ".repeat(lines[i].length() - lines[i].stripLeading().length()) + "}";
                int length = 1;
                while (i + length < lines.length && !lines[i + length].equals(end)) {
                    length++;
                }
                methods++;
                check.due("a length of " + length + " lines: " + lines[i].strip(), length > 60, false);
            }
        }
        check.due("methods are found", methods > 12, true);
    }
}
