import java.io.IOException;
import java.lang.reflect.Constructor;
import java.lang.reflect.Field;
import java.lang.reflect.Method;
import java.lang.reflect.Modifier;
import java.nio.file.Files;
import java.nio.file.Path;
import java.util.ArrayList;
import java.util.Arrays;
import java.util.List;
import java.util.TreeSet;
import java.util.regex.Matcher;
import java.util.regex.Pattern;

/** The document's public face and no more, and those rules of LANGUAGE.md that can be read off the class or its text. */
public final class FaceTest {
    private static final String[] METHODS = {"draft 3", "rule 2", "drop 1", "rank 2", "told 2", "first 4", "wins 1",
        "overlap 2", "covered 1", "idle 1", "packets 1", "split 2", "prefix 4", "tuple 2", "probe 5", "grow 2",
        "tree 1", "walk 5", "image 1", "restore 1", "count 1"};
    private static final String[] CONSTANTS = {"UNKNOWN", "OUTSIDE", "STATE", "FULL", "NO", "NONE"};
    private static final String[] FORBIDDEN = {"throw", "throws", "try", "catch", "synchronized", "assert", "package",
        "Object", "equals", "hashCode", "toString", "Exception", "protected", "Random", "System\\.(?!arraycopy)",
        "\\w+Exact", "->", "::"};

    private static int wrong = 0;

    private static void fault(String text) {
        wrong++;
        System.out.println(text);
    }

    private static void checkMembers() {
        if (!Modifier.isPublic(FieldSorter.class.getModifiers()) || !Modifier.isFinal(FieldSorter.class.getModifiers())) {
            fault("the class is not public and final");
        }
        TreeSet<String> methods = new TreeSet<>();
        for (Method m : FieldSorter.class.getDeclaredMethods()) {
            if (Modifier.isPrivate(m.getModifiers())) {
                continue;
            }
            boolean plain = m.getReturnType() == int.class && m.getModifiers() == Modifier.PUBLIC;
            for (Class<?> type : m.getParameterTypes()) {
                plain &= type == int.class;
            }
            methods.add(m.getName() + " " + m.getParameterCount() + (plain ? "" : " not as told"));
        }
        if (!methods.equals(new TreeSet<>(Arrays.asList(METHODS)))) {
            fault("the methods are " + methods);
        }
        TreeSet<String> constants = new TreeSet<>();
        for (Field f : FieldSorter.class.getDeclaredFields()) {
            if (!Modifier.isPrivate(f.getModifiers())) {
                constants.add(f.getName());
            }
        }
        if (!constants.equals(new TreeSet<>(Arrays.asList(CONSTANTS)))) {
            fault("the constants are " + constants);
        }
        Constructor<?>[] made = FieldSorter.class.getDeclaredConstructors();
        if (made.length != 1 || made[0].getParameterCount() != 0 || !Modifier.isPublic(made[0].getModifiers())) {
            fault("the constructor is not the document's");
        }
    }

    private static List<Class<?>> allClasses() {
        List<Class<?>> all = new ArrayList<>(Arrays.asList(FieldSorter.class.getDeclaredClasses()));
        all.add(FieldSorter.class);
        return all;
    }

    private static void checkClasses() {
        TreeSet<String> face = new TreeSet<>();
        for (String method : METHODS) {
            face.add(method.split(" ")[0]);
        }
        for (Class<?> c : allClasses()) {
            boolean inside = c != FieldSorter.class;
            if (inside && !Modifier.isStatic(c.getModifiers())) {
                fault(c.getName() + " is not static");
            }
            int held = 0;
            for (Field f : c.getDeclaredFields()) {
                boolean fixed = Modifier.isStatic(f.getModifiers());
                held += fixed ? 0 : 1;
                if (fixed && !Modifier.isFinal(f.getModifiers())) {
                    fault(f + " is static and not final");
                }
            }
            if (held > 20) {
                fault(c.getName() + " has " + held + " fields");
            }
            for (Method m : c.getDeclaredMethods()) {
                if (m.getParameterCount() > 7) {
                    fault(m + " has too many parameters");
                }
                if (face.contains(m.getName()) && (inside || Modifier.isPrivate(m.getModifiers()))) {
                    fault(m + " bears the name of a public method");
                }
            }
        }
        if (allClasses().size() > 12) {
            fault("there are " + allClasses().size() + " classes");
        }
    }

    private static void checkText() throws IOException {
        String text = Files.readString(Path.of("src/main/java/FieldSorter.java"));
        String code = text.replaceAll("(?s)/\\*.*?\\*/", "").replaceAll("//[^\n]*", "");
        for (String word : FORBIDDEN) {
            String pattern = Character.isLetter(word.charAt(0)) ? "\\b" + word + "\\b" : word;
            Matcher m = Pattern.compile(word.startsWith("System") ? "\\b" + word : pattern).matcher(code);
            if (m.find()) {
                fault("the text has '" + m.group() + "'");
            }
        }
        for (String line : code.split("\n")) {
            if (line.startsWith("import ") && !line.equals("import java.util.Arrays;")) {
                fault("the text has " + line);
            }
        }
    }

    public static void main(String[] args) throws IOException {
        checkMembers();
        checkClasses();
        checkText();
        System.out.println(wrong == 0 ? "the face is the document's" : wrong + " faults");
        if (wrong != 0) {
            System.exit(1);
        }
    }
}
