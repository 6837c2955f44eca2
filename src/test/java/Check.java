/** What the tests share: the sentence at hand, telling an answer that is not due, making RULES, the end. */
abstract class Check {
    static final int UNKNOWN = -1, OUTSIDE = -2, STATE = -3, FULL = -4, NONE = -6;
    /** How many PACKETS there are. */
    static final int ALL = 1 << 20;
    static final int MOST_RULES = 16;
    static final int[] TOP = {63, 63, 63, 3};
    static final int[] BITS = {6, 6, 6, 2};
    /** Far from every bound, or right if only their last 8 or 16 bits were looked at. */
    static final int[] WILD = {-1, Integer.MIN_VALUE, Integer.MAX_VALUE, Integer.MIN_VALUE + 10, 1 << 20, -1000, -256,
        -65536, 1 << 8 << 8 << 8, 65536 + 10};

    private static String sentence = "";
    private static int sentences = 0;
    private static int wrong = 0;

    /** The document's words, or a name of them, that the answers below are due by. */
    static void sentence(String words) {
        sentence = words;
        sentences++;
    }

    static void due(String call, int got, int want) {
        if (got != want) {
            wrong++;
            System.out.println("\"" + sentence + "\": " + call + " answered " + got + ", due is " + want);
        }
    }

    /** A RULE more, with RANGES given as pairs for the FIELDS from 0 on. */
    static int add(FieldSorter x, int rank, int action, int... ranges) {
        for (int f = 0; 2 * f < ranges.length; f++) {
            x.draft(f, ranges[2 * f], ranges[2 * f + 1]);
        }
        return x.rule(rank, action);
    }

    /** A RULE more, with a RANGE in one FIELD and all numbers in the others. */
    static int addIn(FieldSorter x, int field, int low, int high, int rank, int action) {
        x.draft(field, low, high);
        return x.rule(rank, action);
    }

    /** An object with so many RULES, each of a RANGE of its own in FIELD 0, by rising RANKS. */
    static FieldSorter withRules(int n) {
        FieldSorter x = new FieldSorter();
        for (int r = 0; r < n; r++) {
            addIn(x, 0, 4 * r, 4 * r + 3, 10 * r, r % 10);
        }
        return x;
    }

    /** A PACKET with a number in one FIELD and 0 in the others. */
    static int[] packet(int field, int number) {
        int[] p = new int[4];
        p[field] = number;
        return p;
    }

    static int first(FieldSorter x, int[] p) {
        return x.first(p[0], p[1], p[2], p[3]);
    }

    static int probe(FieldSorter x, int[] p, int what) {
        return x.probe(p[0], p[1], p[2], p[3], what);
    }

    static int walk(FieldSorter x, int[] p, int what) {
        return x.walk(p[0], p[1], p[2], p[3], what);
    }

    static void dueTree(FieldSorter x, String when, int... wants) {
        for (int what = 0; what < wants.length; what++) {
            due(when + ": tree(" + what + ")", x.tree(what), wants[what]);
        }
    }

    static void end() {
        System.out.println(wrong == 0 ? sentences + " sentences hold" : wrong + " answers are not as due");
        if (wrong != 0) {
            System.exit(1);
        }
    }
}
