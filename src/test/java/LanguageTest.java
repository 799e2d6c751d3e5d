import java.io.IOException;
import java.lang.reflect.Executable;
import java.lang.reflect.Field;
import java.lang.reflect.Method;
import java.lang.reflect.Modifier;
import java.nio.file.Files;
import java.nio.file.Path;
import java.util.ArrayList;
import java.util.HashSet;
import java.util.List;
import java.util.Set;
import java.util.regex.Matcher;
import java.util.regex.Pattern;

/** Rules of LANGUAGE.md so far as they can be read from the class and from its text; rule 1's face is in FaceTest. */
public final class LanguageTest {
    private static final Checks CHECKS = new Checks();
    private static final List<Class<?>> CLASSES = new ArrayList<>();
    private static final Set<String> EXCEPTIONS = Set.of("IllegalStateException", "IllegalArgumentException",
            "IndexOutOfBoundsException", "ArithmeticException", "UnsupportedOperationException",
            "NoSuchElementException", "RuntimeException");
    private static final Set<String> MATH = Set.of("max", "min", "abs", "floorDiv", "floorMod");

    public static void main(String[] args) throws IOException {
        CLASSES.add(KindTables.class);
        CLASSES.addAll(List.of(KindTables.class.getDeclaredClasses()));
        String text = code(Files.readString(Path.of("src/main/java/KindTables.java")));
        classesInside();
        namesOfPrivateMethods();
        staticFields();
        sizes();
        wordsLeftOut(text);
        exceptions(text);
        library(text);
        CHECKS.end();
    }

    /** Without comments and written texts, whose words bind nothing. */
    private static String code(String text) {
        return text.replaceAll("(?s)/\\*.*?\\*/", " ").replaceAll("//[^\n]*", " ").replaceAll("\"[^\"\n]*\"", "\"\"");
    }

    /** Rule 1: "the classes inside it, which are private or package-visible and static". */
    private static void classesInside() {
        for (Class<?> one : KindTables.class.getDeclaredClasses()) {
            int modifiers = one.getModifiers();
            CHECKS.due("1: static " + one, true, Modifier.isStatic(modifiers));
            CHECKS.due("1: hidden " + one, false, Modifier.isPublic(modifiers) || Modifier.isProtected(modifiers));
        }
    }

    /** Rule 1: "No private method bears the name of a public one", in the classes inside neither. */
    private static void namesOfPrivateMethods() {
        Set<String> names = new HashSet<>();
        for (Method one : KindTables.class.getDeclaredMethods()) {
            if (Modifier.isPublic(one.getModifiers())) {
                names.add(one.getName());
            }
        }
        for (Class<?> type : CLASSES) {
            for (Method one : type.getDeclaredMethods()) {
                boolean ofFace = type == KindTables.class && Modifier.isPublic(one.getModifiers());
                CHECKS.due("1: the name of " + one, false, !ofFace && names.contains(one.getName()));
            }
        }
    }

    /** Rule 5: "Static fields are final: constants of int, long, boolean, char or String". */
    private static void staticFields() {
        Set<Class<?>> constants = Set.of(int.class, long.class, boolean.class, char.class, String.class);
        for (Class<?> type : CLASSES) {
            for (Field one : type.getDeclaredFields()) {
                if (Modifier.isStatic(one.getModifiers()) && !one.isSynthetic()) {
                    CHECKS.due("5: final " + one, true, Modifier.isFinal(one.getModifiers()));
                    CHECKS.due("5: a constant " + one, true, constants.contains(one.getType()));
                }
            }
        }
    }

    /** Rule 11: seven parameters, some twelve classes, some twenty fields. */
    private static void sizes() {
        CHECKS.due("11: at most twelve classes", true, CLASSES.size() <= 12);
        for (Class<?> type : CLASSES) {
            int fields = 0;
            for (Field one : type.getDeclaredFields()) {
                fields += Modifier.isStatic(one.getModifiers()) ? 0 : 1;
            }
            CHECKS.due("11: fields of " + type, true, fields <= 20);
            List<Executable> all = new ArrayList<>(List.of(type.getDeclaredMethods()));
            all.addAll(List.of(type.getDeclaredConstructors()));
            for (Executable one : all) {
                CHECKS.due("11: parameters of " + one, true, one.getParameterCount() <= 7);
            }
        }
    }

    /** Rules 2, 6 and 13, and the file without a package line; the program needs no catch either. */
    private static void wordsLeftOut(String text) {
        for (String word : new String[] {"package", "import", "try", "catch", "finally", "synchronized", "assert",
            "equals", "hashCode", "toString", "double", "float", "System", "Thread", "Object"}) {
            CHECKS.due("no word " + word, false, Pattern.compile("\\b" + word + "\\b").matcher(text).find());
        }
        CHECKS.due("2: no lambda", false, text.contains("->"));
        CHECKS.due("2: no method reference", false, text.contains("::"));
    }

    /** Rule 6: "throw new E() or throw new E("a written text")", and no other throw. */
    private static void exceptions(String text) {
        Matcher thrown = Pattern.compile("\\bthrow\\b\\s*(new (\\w+)\\((?:\"\")?\\);)?").matcher(text);
        int found = 0;
        while (thrown.find()) {
            found++;
            CHECKS.due("6: " + thrown.group(), true, thrown.group(1) != null && EXCEPTIONS.contains(thrown.group(2)));
        }
        CHECKS.due("6: there are throws", true, found > 0);
    }

    /** Rule 4: of the library's functions those of Math over int and long alone. */
    private static void library(String text) {
        Matcher used = Pattern.compile("\\b(Math|Integer|Long|Arrays|String|List)\\b(?:\\.(\\w+))?").matcher(text);
        while (used.find()) {
            boolean listed = used.group(1).equals("Math") && MATH.contains(String.valueOf(used.group(2)));
            CHECKS.due("4: " + used.group(), true, listed);
        }
    }
}
