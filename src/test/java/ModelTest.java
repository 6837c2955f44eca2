import java.lang.reflect.Method;
import java.util.Arrays;
import java.util.Random;

/** Runs of 512 calls, drawn from fixed seeds, answered by FieldSorter and by PlainModel: no answer may differ. */
public final class ModelTest {
    private static final String[] CALLS = {"draft", "rule", "drop", "rank", "told", "first", "wins", "overlap",
        "covered", "idle", "packets", "split", "prefix", "tuple", "probe", "grow", "tree", "walk", "image",
        "restore", "count"};
    private static final int CALLS_A_RUN = 512;

    private final Random random;
    private final FieldSorter sorter = new FieldSorter();
    private final PlainModel model = new PlainModel();
    /** Out of 100: how often an argument is wrong, a call changes RULES, a call asks for the survey. */
    private final int wrong;
    private final int changing;
    private final int surveying;
    private final int style;

    private ModelTest(long seed) {
        random = new Random(seed);
        wrong = random.nextInt(4) == 0 ? 15 : 2;
        changing = 10 + random.nextInt(50);
        surveying = seed % 8 == 0 ? 25 : 1;
        style = random.nextInt(5);
    }

    private int pick(int from, int to) {
        if (random.nextInt(100) < wrong) {
            int[] wild = {from - 1, to + 1, Integer.MIN_VALUE, Integer.MAX_VALUE, random.nextInt()};
            return wild[random.nextInt(wild.length)];
        }
        return from + random.nextInt(to - from + 1);
    }

    private int rule() {
        return pick(0, Math.max(0, model.rules.size() - 1));
    }

    /** RANGES of several kinds: any, narrow, blocks, nested ones, nearly all. */
    private int[] range(int field) {
        int top = field >= 0 && field <= 3 ? PlainModel.TOP[field] : 63;
        int one = pick(0, top);
        int other = pick(0, top);
        switch (style) {
            case 0: return new int[] {Math.min(one, other), Math.max(one, other)};
            case 1: return new int[] {one, one + random.nextInt(3)};
            case 2:
                int size = 1 << random.nextInt(7);
                return new int[] {one & -size, (one & -size) + size - 1};
            case 3: return new int[] {random.nextInt(32), top - random.nextInt(32)};
            default: return new int[] {random.nextInt(3), top - random.nextInt(3)};
        }
    }

    private int[] packet(int what) {
        return new int[] {pick(0, 63), pick(0, 63), pick(0, 63), pick(0, 3), what};
    }

    private int[] arguments(String call) {
        switch (call) {
            case "draft":
                int field = pick(0, 3);
                int[] range = range(field);
                return new int[] {field, range[0], range[1]};
            case "rule": return new int[] {random.nextBoolean() ? pick(0, 999) : pick(0, 4), pick(0, 2)};
            case "rank": return new int[] {rule(), random.nextBoolean() ? pick(0, 999) : pick(0, 4)};
            case "told": return new int[] {rule(), random.nextInt(3) == 0 ? pick(0, 2) : pick(10, 17)};
            case "overlap": return new int[] {rule(), rule()};
            case "packets": return new int[] {pick(-1, 9)};
            case "split": return new int[] {rule(), pick(0, 3)};
            case "prefix": return new int[] {rule(), pick(0, 3), pick(0, 9), pick(0, 1)};
            case "tuple": return new int[] {pick(0, random.nextBoolean() ? 10 : 1028), pick(0, 6)};
            case "first": return Arrays.copyOf(packet(0), 4);
            case "probe": return packet(pick(0, 2));
            case "walk": return packet(random.nextBoolean() ? pick(0, 2) : pick(10, 13));
            case "grow": return random.nextBoolean() ? new int[] {0, pick(1, 4)} : new int[] {pick(0, 1), pick(1, 8)};
            case "tree": return new int[] {pick(0, 5)};
            case "image": case "restore": return new int[] {pick(0, 1)};
            case "count": return new int[] {pick(0, 7)};
            default: return new int[] {rule()};
        }
    }

    private String name() {
        int n = random.nextInt(100);
        if (n < changing) {
            String[] changes = {"draft", "draft", "draft", "draft", "rule", "rule", "rank", "rank", "drop", "grow"};
            return changes[random.nextInt(changes.length)];
        }
        if (n < changing + surveying) {
            String[] surveys = {"wins", "wins", "idle", "idle", "packets", "count"};
            return surveys[random.nextInt(surveys.length)];
        }
        String call = CALLS[random.nextInt(CALLS.length)];
        boolean dear = call.equals("wins") || call.equals("idle") || call.equals("packets");
        return dear && surveying < 2 ? "first" : call;
    }

    /** Both classes have methods of the same names, which take nothing but ints. */
    private static int answer(Object object, String call, int[] a) throws ReflectiveOperationException {
        for (Method m : object.getClass().getDeclaredMethods()) {
            if (m.getName().equals(call) && m.getParameterCount() == a.length) {
                return (int) m.invoke(object, Arrays.stream(a).boxed().toArray());
            }
        }
        throw new IllegalArgumentException("no " + call + " of " + a.length);
    }

    /** The first call of a run that differs, or null. */
    private String run() throws ReflectiveOperationException {
        for (int i = 0; i < CALLS_A_RUN; i++) {
            String call = i < 60 && i % 3 == 2 ? "rule" : i < 60 ? "draft" : name();
            int[] a = arguments(call);
            int got = answer(sorter, call, a);
            int want = answer(model, call, a);
            if (got != want) {
                return "call " + i + ": " + call + Arrays.toString(a) + " answered " + got + ", due is " + want;
            }
        }
        return null;
    }

    public static void main(String[] args) throws ReflectiveOperationException {
        int runs = args.length > 0 ? Integer.parseInt(args[0]) : 160;
        int wrongRuns = 0;
        for (int seed = 0; seed < runs; seed++) {
            String fault = new ModelTest(seed).run();
            if (fault != null) {
                wrongRuns++;
                System.out.println("seed " + seed + ", " + fault);
            }
        }
        System.out.println(wrongRuns == 0 ? runs + " runs are as the model's" : wrongRuns + " runs are not");
        if (wrongRuns != 0) {
            System.exit(1);
        }
    }
}
