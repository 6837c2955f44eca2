import java.io.IOException;
import java.lang.reflect.Field;
import java.lang.reflect.Method;
import java.lang.reflect.Modifier;
import java.nio.file.Files;
import java.nio.file.Path;
import java.util.ArrayList;
import java.util.Arrays;
import java.util.List;
import java.util.TreeMap;
import java.util.TreeSet;
import java.util.concurrent.TimeUnit;
import java.util.regex.Matcher;
import java.util.regex.Pattern;
import java.util.stream.Stream;

/** README.md is as the class, its tests and .ci/run are: the calls and answers it shows, its constants and commands. */
public final class ReadmeTest {
    private static final Path TESTS = Path.of("src/test/java");
    private static final String RUN_ALL = ".ci/run";
    /** A call, and its answer as a number behind it, with a constant's name where it is one. */
    private static final Pattern CALL =
        Pattern.compile("\\s*sorter\\.(\\w+)\\(([^()]*)\\);\\s*// (-?\\d+): (?:([A-Z]{2,})\\b)?.*");
    private static final Pattern CONSTANT = Pattern.compile("\\| `([A-Z]+)`\\s*\\| (-?\\d+)\\s*\\|.*");

    private static int wrong = 0;

    private static void fault(String text) {
        wrong++;
        System.out.println("README.md: " + text);
    }

    private static List<String> blocks(String readme, String kind) {
        List<String> all = new ArrayList<>();
        Matcher m = Pattern.compile("(?s)```" + kind + "\n(.*?)```").matcher(readme);
        while (m.find()) {
            all.add(m.group(1));
        }
        return all;
    }

    private static TreeMap<String, Integer> constants() throws ReflectiveOperationException {
        TreeMap<String, Integer> all = new TreeMap<>();
        for (Field f : FieldSorter.class.getFields()) {
            all.put(f.getName(), f.getInt(null));
        }
        return all;
    }

    private static TreeSet<String> publicMethods() {
        TreeSet<String> names = new TreeSet<>();
        for (Method m : FieldSorter.class.getDeclaredMethods()) {
            if (Modifier.isPublic(m.getModifiers())) {
                names.add(m.getName());
            }
        }
        return names;
    }

    private static int answer(FieldSorter sorter, String call, String arguments) throws ReflectiveOperationException {
        Integer[] numbers = Arrays.stream(arguments.split(", ")).map(Integer::valueOf).toArray(Integer[]::new);
        Class<?>[] types = new Class<?>[numbers.length];
        Arrays.fill(types, int.class);
        return (int) FieldSorter.class.getMethod(call, types).invoke(sorter, (Object[]) numbers);
    }

    /** All calls of the example go to one object, in their order. */
    private static void checkCalls(String example) throws ReflectiveOperationException {
        FieldSorter sorter = new FieldSorter();
        TreeSet<String> missing = publicMethods();
        for (String line : example.split("\n")) {
            Matcher m = CALL.matcher(line);
            if (!m.matches()) {
                if (line.strip().startsWith("sorter.")) {
                    fault("no answer can be read in" + line);
                }
                continue;
            }
            missing.remove(m.group(1));
            int said = Integer.parseInt(m.group(3));
            int got = answer(sorter, m.group(1), m.group(2));
            if (got != said) {
                fault(m.group(1) + "(" + m.group(2) + ") is said to answer " + said + " and answers " + got);
            }
            if (m.group(4) != null && !Integer.valueOf(said).equals(constants().get(m.group(4)))) {
                fault(said + " is said to be " + m.group(4));
            }
        }
        if (!missing.isEmpty()) {
            fault("shows no call of " + missing);
        }
    }

    private static void checkConstants(String readme) throws ReflectiveOperationException {
        TreeMap<String, Integer> said = new TreeMap<>();
        for (String line : readme.split("\n")) {
            Matcher m = CONSTANT.matcher(line);
            if (m.matches()) {
                said.put(m.group(1), Integer.valueOf(m.group(2)));
            }
        }
        if (!said.equals(constants())) {
            fault("the constants are said to be " + said + " and are " + constants());
        }
    }

    private static void checkFiles(String readme) throws IOException {
        TreeSet<String> named = new TreeSet<>();
        Matcher m = Pattern.compile("`(\\w+\\.java)`").matcher(readme);
        while (m.find()) {
            named.add(m.group(1));
        }
        named.remove("Example.java");
        named.remove("Test.java");
        TreeSet<String> there = new TreeSet<>();
        try (Stream<Path> files = Files.list(TESTS)) {
            files.forEach(file -> there.add(file.getFileName().toString()));
        }
        if (!named.equals(there)) {
            fault("names " + named + " and " + TESTS + " has " + there);
        }
        if (!Files.isExecutable(Path.of(RUN_ALL))) {
            fault(RUN_ALL + " cannot be run");
        }
    }

    /** The commands run where they are shown, but in a folder of their own, so that they leave nothing behind. */
    private static void checkCommands(String readme, String example) throws IOException, InterruptedException {
        Path folder = Files.createTempDirectory("readme");
        Files.createSymbolicLink(folder.resolve("src"), Path.of("src").toAbsolutePath());
        Files.writeString(folder.resolve("Example.java"), example);
        boolean runsAll = false;
        String printed = "";
        for (String block : blocks(readme, "sh")) {
            for (String command : block.split("\n")) {
                if (command.equals(RUN_ALL)) {
                    runsAll = true;
                } else {
                    printed += printedBy(command, folder);
                }
            }
        }
        if (!runsAll) {
            fault("does not say that " + RUN_ALL + " runs the tests");
        }
        Matcher m = Pattern.compile("It prints `([^`]*)`").matcher(readme);
        if (!m.find() || !Arrays.asList(printed.split("\n")).contains(m.group(1))) {
            fault("the example does not print what it is said to print, the commands print " + printed);
        }
        remove(folder);
    }

    private static String printedBy(String command, Path folder) throws IOException, InterruptedException {
        Path out = folder.resolve("printed");
        Process process = new ProcessBuilder("sh", "-c", command).directory(folder.toFile())
            .redirectErrorStream(true).redirectOutput(out.toFile()).start();
        boolean ended = process.waitFor(300, TimeUnit.SECONDS);
        process.destroyForcibly();
        String printed = Files.readString(out);
        if (!ended || process.exitValue() != 0) {
            fault("'" + command + "' fails: " + printed);
        }
        return printed;
    }

    private static void remove(Path folder) throws IOException {
        List<Path> all;
        try (Stream<Path> files = Files.walk(folder)) {
            all = new ArrayList<>(files.toList());
        }
        for (int i = all.size() - 1; i >= 0; i--) {
            Files.delete(all.get(i));
        }
    }

    public static void main(String[] args) throws Exception {
        String readme = Files.readString(Path.of("README.md"));
        List<String> examples = blocks(readme, "java");
        if (examples.size() == 1) {
            checkCalls(examples.get(0));
            checkCommands(readme, examples.get(0));
        } else {
            fault("has " + examples.size() + " examples, not one");
        }
        checkConstants(readme);
        checkFiles(readme);
        System.out.println(wrong == 0 ? "README.md is as the class and its tests" : wrong + " faults");
        if (wrong != 0) {
            System.exit(1);
        }
    }
}
