import java.lang.reflect.Constructor;
import java.lang.reflect.Field;
import java.lang.reflect.Method;
import java.lang.reflect.Modifier;
import java.nio.file.Files;
import java.nio.file.Path;
import java.util.ArrayList;
import java.util.List;
import java.util.Set;
import java.util.TreeSet;

/** The class's face, and those rules of LANGUAGE.md that can be told from the class or its text. */
public final class LanguageTest {
    private static final Path SOURCE = Path.of("src/main/java/SaltPlant.java");
    private static final String[] FACE = {
        "array(int, int)", "brine(int)", "change(int, int)", "copy(int, int, int, int, int)", "count(int)", "days(int)",
        "failure()", "feed(int, int, int)", "flow(int, int)", "foul(int)", "fresh(int, int)", "hour(int, int, int)",
        "isOf(int, int)", "joint(int, int, int)", "lay(int, int)", "length(int)", "mark(int, int, int)", "plan(int)",
        "power()", "rule(int, int)", "runs(int)", "sheet(int, int)", "stage(int, int)", "swap()", "sweet(int)",
        "tank(int, int)", "told(int, int)"};
    private static final String[] CONSTANTS = {"BAD", "FULL", "INDEX", "NO", "NONE", "NOTHING", "SIZE", "SPENT"};
    private static final String[] FORBIDDEN = {
        "throw", "throws", "try", "catch", "synchronized", "assert", "package", "volatile", "native", "System.out",
        "Thread", "Random", "->", "::", "equals(", "hashCode", "toString", "Exact("};

    private final List<String> faults = new ArrayList<>();

    private void same(String what, Set<String> got, String[] want) {
        Set<String> due = new TreeSet<>(List.of(want));
        if (!got.equals(due)) {
            faults.add(what + ": " + got + ", due are " + due);
        }
    }

    private static String signature(Method m) {
        List<String> types = new ArrayList<>();
        for (Class<?> type : m.getParameterTypes()) {
            types.add(type.getName());
        }
        return m.getName() + "(" + String.join(", ", types) + ")";
    }

    private void face() {
        Class<?> c = SaltPlant.class;
        if (c.getModifiers() != (Modifier.PUBLIC | Modifier.FINAL)) {
            faults.add("the class is not public final");
        }
        Set<String> methods = new TreeSet<>();
        Set<String> names = new TreeSet<>();
        for (Method m : c.getDeclaredMethods()) {
            if (!Modifier.isPrivate(m.getModifiers())) {
                methods.add(signature(m));
                names.add(m.getName());
                if (m.getModifiers() != Modifier.PUBLIC || m.getReturnType() != long.class) {
                    faults.add(m + " is not a public method that answers a long");
                }
            }
        }
        same("methods", methods, FACE);
        Set<String> constants = new TreeSet<>();
        for (Field f : c.getDeclaredFields()) {
            if (!Modifier.isPrivate(f.getModifiers())) {
                constants.add(f.getName());
            }
            staticIsFinal(f);
        }
        same("constants", constants, CONSTANTS);
        for (Constructor<?> k : c.getDeclaredConstructors()) {
            if (!Modifier.isPublic(k.getModifiers()) || k.getParameterCount() != 0) {
                faults.add(k + " is no constructor of the face");
            }
        }
        ownNames(c, names);
        for (Class<?> inside : c.getDeclaredClasses()) {
            classInside(inside, names);
        }
    }

    private void classInside(Class<?> inside, Set<String> names) {
        if (!Modifier.isStatic(inside.getModifiers()) || Modifier.isPublic(inside.getModifiers())) {
            faults.add(inside + " is not a static class of our own");
        }
        ownNames(inside, names);
        int fields = 0;
        for (Field f : inside.getDeclaredFields()) {
            staticIsFinal(f);
            fields += Modifier.isStatic(f.getModifiers()) ? 0 : 1;
        }
        if (fields > 20) {
            faults.add(inside + " has " + fields + " fields");
        }
    }

    private void ownNames(Class<?> c, Set<String> names) {
        for (Method m : c.getDeclaredMethods()) {
            boolean ofFace = c == SaltPlant.class && Modifier.isPublic(m.getModifiers());
            if (!ofFace && names.contains(m.getName())) {
                faults.add(m + " bears the name of a public method");
            }
            if (m.getParameterCount() > 7) {
                faults.add(m + " takes more than seven parameters");
            }
        }
    }

    private void staticIsFinal(Field f) {
        if (Modifier.isStatic(f.getModifiers()) && !Modifier.isFinal(f.getModifiers())) {
            faults.add(f + " is static and not final");
        }
    }

    private void text() throws Exception {
        String code = Files.readString(SOURCE).replaceAll("(?s)/\\*.*?\\*/", " ").replaceAll("//[^\n]*", " ");
        for (String word : FORBIDDEN) {
            boolean isWord = Character.isLetter(word.charAt(0)) && Character.isLetter(word.charAt(word.length() - 1));
            String pattern = isWord ? "(?s).*\\b" + java.util.regex.Pattern.quote(word) + "\\b.*"
                : "(?s).*" + java.util.regex.Pattern.quote(word) + ".*";
            if (code.matches(pattern)) {
                faults.add("the text holds " + word);
            }
        }
        for (String line : code.split("\n")) {
            if (line.startsWith("import ") && !line.matches("import java\\.util\\.(Arrays|ArrayList|List|Iterator);")) {
                faults.add("not a library of ours: " + line);
            }
            if (line.chars().anyMatch(c -> c > 126)) {
                faults.add("a sign above 126: " + line);
            }
        }
    }

    public static void main(String[] args) throws Exception {
        LanguageTest test = new LanguageTest();
        test.face();
        test.text();
        for (String fault : test.faults) {
            System.out.println(fault);
        }
        System.out.println(test.faults.isEmpty() ? "face and language are as told" : test.faults.size() + " faults");
        if (!test.faults.isEmpty()) {
            System.exit(1);
        }
    }
}
