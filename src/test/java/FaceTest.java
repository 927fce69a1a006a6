import java.io.IOException;
import java.lang.reflect.Field;
import java.lang.reflect.Method;
import java.lang.reflect.Modifier;
import java.nio.file.Files;
import java.nio.file.Path;
import java.util.Arrays;
import java.util.Set;
import java.util.TreeSet;
import java.util.regex.Matcher;
import java.util.regex.Pattern;

/** The public face as the document tells it, and rules of LANGUAGE.md that can be seen from outside. */
final class FaceTest {
    private static final String[] METHODS = {
        "int family(int, int, int, int, int)", "int know(int, int, int, int)", "int clear(int)",
        "int about(int, int, int)", "int town(int, int)", "int order(int, int, int, int)",
        "int where(int, int, int, int, boolean)", "long below(int, int, int, int, boolean)",
        "int coins(int, int)", "int give(int, int, int, int)", "int would(int, int, int, int)",
        "long measure(int, int, int, boolean)", "int calls(int, int, int, int)", "int minds(int, int)",
        "int against(int, int)", "int part(int, int, int)", "long fillings(int)",
        "int hidden(int, int, int, int, int)", "int ask(int, int, int, int)", "int poor(int, int, boolean)",
        "int never(int, int, int, int)", "int edge(int, int, int, int)", "long spread(int, int, boolean)",
        "int moved(int, int)", "int rose(int, int, int)", "int band(int, int)", "int unband()",
        "int tax(int)", "int taxed(int, int)", "int rises()", "int count(int)",
    };
    private static final String[] FIELDS = {"FULL", "NONE", "OUTSIDE", "STATE", "UNKNOWN"};
    private static final String[] BANNED_WORDS = {
        "throw", "throws", "try", "catch", "synchronized", "assert", "package", "import", "Object", "Exact",
        "random", "currentTimeMillis", "nanoTime", "Thread", "equals", "hashCode", "toString",
    };

    private FaceTest() {
    }

    public static void main(String[] args) throws IOException {
        Check check = new Check("FaceTest");
        face(check);
        constants(check);
        nested(check);
        source(check);
        check.end();
    }

    private static void face(Check check) {
        Class<MoreEven> face = MoreEven.class;
        check.holds("the class is public and final", Modifier.isPublic(face.getModifiers())
            && Modifier.isFinal(face.getModifiers()));
        check.due("constructors", face.getDeclaredConstructors().length, 1);
        check.holds("the constructor is public and takes nothing",
            Modifier.isPublic(face.getDeclaredConstructors()[0].getModifiers())
            && face.getDeclaredConstructors()[0].getParameterCount() == 0);
        Set<String> seen = new TreeSet<>();
        Set<String> publicNames = new TreeSet<>();
        for (Method method : face.getDeclaredMethods()) {
            if (Modifier.isPublic(method.getModifiers())) {
                seen.add(told(method));
                publicNames.add(method.getName());
                check.holds(method + " is not static", !Modifier.isStatic(method.getModifiers()));
            }
        }
        check.holds("the public methods are those of the document: " + seen,
            seen.equals(new TreeSet<>(Arrays.asList(METHODS))));
        for (Method method : face.getDeclaredMethods()) {
            if (!Modifier.isPublic(method.getModifiers()) && !method.isSynthetic()) {
                check.holds(method + " is private", Modifier.isPrivate(method.getModifiers()));
                check.holds(method + " has a name of its own", !publicNames.contains(method.getName()));
            }
        }
        Set<String> fields = new TreeSet<>();
        for (Field field : face.getDeclaredFields()) {
            if (!Modifier.isPrivate(field.getModifiers())) {
                fields.add(field.getName());
            }
            check.holds(field + " is final", Modifier.isFinal(field.getModifiers()));
        }
        check.holds("the constants are those of the document: " + fields,
            fields.equals(new TreeSet<>(Arrays.asList(FIELDS))));
    }

    private static String told(Method method) {
        StringBuilder text = new StringBuilder(method.getReturnType() + " " + method.getName() + "(");
        Class<?>[] types = method.getParameterTypes();
        for (int i = 0; i < types.length; i++) {
            text.append(i == 0 ? "" : ", ").append(types[i]);
        }
        return text.append(")").toString();
    }

    private static void constants(Check check) {
        check.due("UNKNOWN", MoreEven.UNKNOWN, -1);
        check.due("OUTSIDE", MoreEven.OUTSIDE, -2);
        check.due("STATE", MoreEven.STATE, -3);
        check.due("FULL", MoreEven.FULL, -4);
        check.due("NONE", MoreEven.NONE, -9);
    }

    private static void nested(Check check) {
        Class<?>[] classes = MoreEven.class.getDeclaredClasses();
        check.holds("at most twelve classes", classes.length < 12);
        for (Class<?> inner : classes) {
            check.holds(inner + " is static and not public", Modifier.isStatic(inner.getModifiers())
                && !Modifier.isPublic(inner.getModifiers()));
            int fields = 0;
            for (Field field : inner.getDeclaredFields()) {
                if (Modifier.isStatic(field.getModifiers())) {
                    check.holds(field + " is final", Modifier.isFinal(field.getModifiers()));
                } else {
                    fields++;
                }
            }
            check.holds(inner + " has at most twenty fields", fields <= 20);
            for (Method method : inner.getDeclaredMethods()) {
                check.holds(method + " takes at most seven", method.getParameterCount() <= 7);
                for (String told : METHODS) {
                    check.holds(method + " has a name of its own",
                        !told.contains(" " + method.getName() + "("));
                }
            }
        }
    }

    private static void source(Check check) throws IOException {
        String text = Files.readString(Path.of("src/main/java/MoreEven.java"));
        String code = text.replaceAll("(?s)/\\*.*?\\*/", "").replaceAll("//[^\n]*", "");
        for (String word : BANNED_WORDS) {
            Matcher found = Pattern.compile("\\b" + word + "\\b").matcher(code);
            check.holds("the word '" + word + "' is not in the program", !found.find());
        }
        check.holds("no lambda, no method reference", !code.contains("->") && !code.contains("::"));
        for (int i = 0; i < text.length(); i++) {
            if (text.charAt(i) > 126) {
                check.holds("the sign at " + i + " is plain", false);
            }
        }
    }
}
