import java.io.IOException;
import java.lang.reflect.Constructor;
import java.lang.reflect.Field;
import java.lang.reflect.Method;
import java.lang.reflect.Modifier;
import java.nio.file.Files;
import java.nio.file.Path;
import java.util.ArrayList;
import java.util.Arrays;
import java.util.List;
import java.util.TreeSet;
import java.util.regex.Matcher;
import java.util.regex.Pattern;

/** The document's public face and no more, and those rules of LANGUAGE.md that can be read off the class or its text. */
public final class FaceTest {
    private static final Path DOCUMENT = Path.of("../shared/DOC.md");
    private static final String[] FORBIDDEN = {"throw", "throws", "try", "catch", "synchronized", "assert", "package",
        "Object", "equals", "hashCode", "toString", "Exception", "protected", "Random", "System\\.(?!arraycopy)",
        "\\w+Exact", "->", "::"};
    /** What is called of the library; all of it stands in LANGUAGE.md. */
    private static final List<String> LIBRARY = List.of("Arrays.fill", "Integer.bitCount", "Math.max", "Math.min");

    /** As the document's face has them: a method's name with how many ints it takes, a constant's with its number. */
    private static final TreeSet<String> METHODS = new TreeSet<>();
    private static final TreeSet<String> CONSTANTS = new TreeSet<>();

    private static int wrong = 0;

    private static void fault(String text) {
        wrong++;
        System.out.println(text);
    }

    private static void readFace() throws IOException {
        String text = Files.readString(DOCUMENT);
        int start = text.indexOf("```java");
        String face = text.substring(start, text.indexOf("\n```", start));
        Matcher method = Pattern.compile("public int (\\w+)\\(([^)]*)\\);").matcher(face);
        while (method.find()) {
            METHODS.add(method.group(1) + " " + method.group(2).split(",").length);
        }
        Matcher constant = Pattern.compile("([A-Z]+) = (-\\d+)").matcher(face);
        while (constant.find()) {
            CONSTANTS.add(constant.group(1) + " " + constant.group(2));
        }
        if (METHODS.size() != 21 || CONSTANTS.size() != 6) {
            fault("the document's face was read as " + METHODS + ", " + CONSTANTS);
        }
    }

    private static void checkMembers() throws ReflectiveOperationException {
        if (!Modifier.isPublic(FieldSorter.class.getModifiers()) || !Modifier.isFinal(FieldSorter.class.getModifiers())) {
            fault("the class is not public and final");
        }
        TreeSet<String> methods = new TreeSet<>();
        for (Method m : FieldSorter.class.getDeclaredMethods()) {
            if (Modifier.isPrivate(m.getModifiers())) {
                continue;
            }
            boolean plain = m.getReturnType() == int.class && m.getModifiers() == Modifier.PUBLIC;
            for (Class<?> type : m.getParameterTypes()) {
                plain &= type == int.class;
            }
            methods.add(m.getName() + " " + m.getParameterCount() + (plain ? "" : " not as told"));
        }
        if (!methods.equals(METHODS)) {
            fault("the methods are " + methods);
        }
        TreeSet<String> constants = new TreeSet<>();
        for (Field f : FieldSorter.class.getDeclaredFields()) {
            if (Modifier.isPrivate(f.getModifiers())) {
                continue;
            }
            boolean plain = f.getType() == int.class
                && f.getModifiers() == (Modifier.PUBLIC | Modifier.STATIC | Modifier.FINAL);
            constants.add(f.getName() + " " + (plain ? f.getInt(null) : "not as told"));
        }
        if (!constants.equals(CONSTANTS)) {
            fault("the constants are " + constants);
        }
        Constructor<?>[] made = FieldSorter.class.getDeclaredConstructors();
        if (made.length != 1 || made[0].getParameterCount() != 0 || !Modifier.isPublic(made[0].getModifiers())) {
            fault("the constructor is not the document's");
        }
    }

    private static List<Class<?>> allClasses() {
        List<Class<?>> all = new ArrayList<>(Arrays.asList(FieldSorter.class.getDeclaredClasses()));
        all.add(FieldSorter.class);
        return all;
    }

    private static void checkClasses() {
        TreeSet<String> face = new TreeSet<>();
        for (String method : METHODS) {
            face.add(method.split(" ")[0]);
        }
        for (Class<?> c : allClasses()) {
            boolean inside = c != FieldSorter.class;
            if (inside && !Modifier.isStatic(c.getModifiers())) {
                fault(c.getName() + " is not static");
            }
            int held = 0;
            for (Field f : c.getDeclaredFields()) {
                boolean fixed = Modifier.isStatic(f.getModifiers());
                held += fixed ? 0 : 1;
                if (fixed && !Modifier.isFinal(f.getModifiers())) {
                    fault(f + " is static and not final");
                }
            }
            if (held > 20) {
                fault(c.getName() + " has " + held + " fields");
            }
            for (Method m : c.getDeclaredMethods()) {
                if (m.getParameterCount() > 7) {
                    fault(m + " has too many parameters");
                }
                if (face.contains(m.getName()) && (inside || Modifier.isPrivate(m.getModifiers()))) {
                    fault(m + " bears the name of a public method");
                }
            }
        }
        if (allClasses().size() > 12) {
            fault("there are " + allClasses().size() + " classes");
        }
    }

    private static void checkText() throws IOException {
        String text = Files.readString(Path.of("src/main/java/FieldSorter.java"));
        String code = text.replaceAll("(?s)/\\*.*?\\*/", "").replaceAll("//[^\n]*", "");
        for (String word : FORBIDDEN) {
            String pattern = Character.isLetter(word.charAt(0)) ? "\\b" + word + "\\b" : word;
            Matcher m = Pattern.compile(word.startsWith("System") ? "\\b" + word : pattern).matcher(code);
            if (m.find()) {
                fault("the text has '" + m.group() + "'");
            }
        }
        Matcher call = Pattern.compile("\\b([A-Z]\\w*\\.\\w+)\\(").matcher(code);
        while (call.find()) {
            if (!LIBRARY.contains(call.group(1))) {
                fault("the text calls " + call.group(1));
            }
        }
        for (String line : code.split("\n")) {
            if (line.startsWith("import ") && !line.equals("import java.util.Arrays;")) {
                fault("the text has " + line);
            }
        }
    }

    public static void main(String[] args) throws IOException, ReflectiveOperationException {
        readFace();
        checkMembers();
        checkClasses();
        checkText();
        System.out.println(wrong == 0 ? "the face is the document's" : wrong + " faults");
        if (wrong != 0) {
            System.exit(1);
        }
    }
}
