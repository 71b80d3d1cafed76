import java.lang.reflect.Constructor;
import java.lang.reflect.Field;
import java.lang.reflect.Method;
import java.lang.reflect.Modifier;
import java.nio.file.Files;
import java.nio.file.Path;
import java.util.ArrayList;
import java.util.List;
import java.util.Set;
import java.util.TreeSet;

/** The class's face, and those rules of LANGUAGE.md that can be told from the class or its text. */
public final class LanguageTest {
    private static final Path SOURCE = Path.of("src/main/java/SaltPlant.java");
    private static final String[] FACE = {
        "array(int, int)", "brine(int)", "change(int, int)", "copy(int, int, int, int, int)", "count(int)", "days(int)",
        "failure()", "feed(int, int, int)", "flow(int, int)", "foul(int)", "fresh(int, int)", "hour(int, int, int)",
        "isOf(int, int)", "joint(int, int, int)", "lay(int, int)", "length(int)", "mark(int, int, int)", "plan(int)",
        "power()", "rule(int, int)", "runs(int)", "sheet(int, int)", "stage(int, int)", "swap()", "sweet(int)",
        "tank(int, int)", "told(int, int)"};
    private static final String[] CONSTANTS = {"BAD", "FULL", "INDEX", "NO", "NONE", "NOTHING", "SIZE", "SPENT"};
    private static final String[] FORBIDDEN = {
        "throw", "throws", "try", "catch", "synchronized", "assert", "package", "volatile", "native", "System.out",
        "Thread", "Random", "->", "::", "equals(", "hashCode", "toString", "Exact("};

    private static final int MOST_CLASSES = 12;
    private static final int MOST_FIELDS = 20;
    private static final int MOST_LINES = 60;
    private static final Set<Class<?>> STATIC_TYPES = Set.of(
        int.class, long.class, boolean.class, char.class, String.class, int[].class, long[].class, char[].class, byte[].class);

    private final List<String> faults = new ArrayList<>();

    private void same(String what, Set<String> got, String[] want) {
        Set<String> due = new TreeSet<>(List.of(want));
        if (!got.equals(due)) {
            faults.add(what + ": " + got + ", due are " + due);
        }
    }

    private static String signature(Method m) {
        List<String> types = new ArrayList<>();
        for (Class<?> type : m.getParameterTypes()) {
            types.add(type.getName());
        }
        return m.getName() + "(" + String.join(", ", types) + ")";
    }

    private void face() {
        Class<?> c = SaltPlant.class;
        if (c.getModifiers() != (Modifier.PUBLIC | Modifier.FINAL)) {
            faults.add("the class is not public final");
        }
        Set<String> methods = new TreeSet<>();
        Set<String> names = new TreeSet<>();
        for (Method m : c.getDeclaredMethods()) {
            if (!Modifier.isPrivate(m.getModifiers())) {
                methods.add(signature(m));
                names.add(m.getName());
                if (m.getModifiers() != Modifier.PUBLIC || m.getReturnType() != long.class) {
                    faults.add(m + " is not a public method that answers a long");
                }
            }
        }
        same("methods", methods, FACE);
        Set<String> constants = new TreeSet<>();
        for (Field f : c.getDeclaredFields()) {
            if (!Modifier.isPrivate(f.getModifiers())) {
                constants.add(f.getName());
            }
        }
        fields(c);
        same("constants", constants, CONSTANTS);
        for (Constructor<?> k : c.getDeclaredConstructors()) {
            if (!Modifier.isPublic(k.getModifiers()) || k.getParameterCount() != 0) {
                faults.add(k + " is no constructor of the face");
            }
        }
        ownNames(c, names);
        for (Class<?> inside : c.getDeclaredClasses()) {
            classInside(inside, names);
        }
        if (1 + c.getDeclaredClasses().length > MOST_CLASSES) {
            faults.add("the file has more than " + MOST_CLASSES + " classes");
        }
    }

    private void classInside(Class<?> inside, Set<String> names) {
        if (!Modifier.isStatic(inside.getModifiers()) || Modifier.isPublic(inside.getModifiers())) {
            faults.add(inside + " is not a static class of our own");
        }
        ownNames(inside, names);
        fields(inside);
    }

    private void fields(Class<?> c) {
        int fields = 0;
        for (Field f : c.getDeclaredFields()) {
            if (Modifier.isStatic(f.getModifiers())) {
                staticIsConstant(f);
            } else {
                fields++;
                isPlain(f);
            }
        }
        if (fields > MOST_FIELDS) {
            faults.add(c + " has " + fields + " fields");
        }
    }

    /** A number, a class of our own, or a row of either; two dimensions are for numbers alone. */
    private void isPlain(Field f) {
        Class<?> type = f.getType();
        int dimensions = 0;
        while (type.isArray()) {
            type = type.getComponentType();
            dimensions++;
        }
        boolean own = type.getDeclaringClass() == SaltPlant.class && dimensions < 2;
        if (!own && !(type.isPrimitive() && dimensions < 3)) {
            faults.add(f + " is of a type that the language leaves out");
        }
    }

    private void ownNames(Class<?> c, Set<String> names) {
        for (Method m : c.getDeclaredMethods()) {
            boolean ofFace = c == SaltPlant.class && Modifier.isPublic(m.getModifiers());
            if (!ofFace && names.contains(m.getName())) {
                faults.add(m + " bears the name of a public method");
            }
            if (m.getParameterCount() > 7) {
                faults.add(m + " takes more than seven parameters");
            }
        }
    }

    private void staticIsConstant(Field f) {
        if (!Modifier.isFinal(f.getModifiers()) || !STATIC_TYPES.contains(f.getType())) {
            faults.add(f + " is static and no constant of the language");
        }
    }

    /** A method begins at a line that opens a brace and ends at the brace that stands as far in as it does. */
    private void lengths(String[] lines) {
        for (int i = 0; i < lines.length; i++) {
            if (!lines[i].matches("(    |        )[a-z].*\\) \\{") || lines[i].trim().matches("(if|for|while|switch) .*")) {
                continue;
            }
            String end = lines[i].replaceAll("\\S.*", "") + "}";
            int last = i;
            while (last < lines.length && !lines[last].equals(end)) {
                last++;
            }
            if (last - i + 1 > MOST_LINES) {
                faults.add(lines[i].trim() + " takes more than " + MOST_LINES + " lines");
            }
        }
    }

    private void text() throws Exception {
        String code = Files.readString(SOURCE).replaceAll("(?s)/\\*.*?\\*/", " ").replaceAll("//[^\n]*", " ");
        for (String word : FORBIDDEN) {
            boolean isWord = Character.isLetter(word.charAt(0)) && Character.isLetter(word.charAt(word.length() - 1));
            String pattern = isWord ? "(?s).*\\b" + java.util.regex.Pattern.quote(word) + "\\b.*"
                : "(?s).*" + java.util.regex.Pattern.quote(word) + ".*";
            if (code.matches(pattern)) {
                faults.add("the text holds " + word);
            }
        }
        lengths(Files.readString(SOURCE).split("\n"));
        for (String line : code.split("\n")) {
            if (line.startsWith("import ") && !line.matches("import java\\.util\\.(Arrays|ArrayList|List|Iterator);")) {
                faults.add("not a library of ours: " + line);
            }
            if (line.chars().anyMatch(c -> c > 126)) {
                faults.add("a sign above 126: " + line);
            }
        }
    }

    public static void main(String[] args) throws Exception {
        LanguageTest test = new LanguageTest();
        test.face();
        test.text();
        for (String fault : test.faults) {
            System.out.println(fault);
        }
        System.out.println(test.faults.isEmpty() ? "face and language are as told" : test.faults.size() + " faults");
        if (!test.faults.isEmpty()) {
            System.exit(1);
        }
    }
}
