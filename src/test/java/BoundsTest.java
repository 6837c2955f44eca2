import java.util.function.IntUnaryOperator;
import java.util.function.Supplier;

/** Each argument of each call: every number that is taken, the first refused on each side, and far ones. */
public final class BoundsTest extends Check {
    private interface Call {
        int on(FieldSorter x, int n);
    }

    /** Each call is made on an object of its own, so that none leans on one before. */
    private static void bounds(String call, Supplier<FieldSorter> make, Call c, int least, int greatest,
            IntUnaryOperator want, int refusal) {
        for (int n = least; n <= greatest; n++) {
            due(call + " with " + n, c.on(make.get(), n), want.applyAsInt(n));
        }
        refused(call, make, c, least - 1, least, greatest, refusal);
        refused(call, make, c, greatest + 1, least, greatest, refusal);
        for (int w : WILD) {
            refused(call, make, c, w, least, greatest, refusal);
        }
        for (int bit = 8; bit < 32; bit++) {
            refused(call, make, c, least + (1 << bit), least, greatest, refusal);
            refused(call, make, c, greatest + (1 << bit), least, greatest, refusal);
        }
    }

    private static void refused(String call, Supplier<FieldSorter> make, Call c, int n, int least, int greatest,
            int refusal) {
        if (n < least || n > greatest) {
            due(call + " with " + n, c.on(make.get(), n), refusal);
        }
    }

    private static void draftField() {
        sentence("2 draft: UNKNOWN");
        bounds("draft(n, 0, 0)", FieldSorter::new, (x, n) -> x.draft(n, 0, 0), 0, 3, n -> 1, UNKNOWN);
        bounds("draft(n, 0, 3)", FieldSorter::new, (x, n) -> x.draft(n, 0, 3), 0, 3, n -> 4, UNKNOWN);
    }

    private static void draftNumbers() {
        sentence("2 draft: OUTSIDE: both (0 to 63, of FIELD 3 to 3)");
        for (int field = 0; field < 4; field++) {
            int f = field;
            int top = TOP[f];
            bounds("draft(" + f + ", n, top)", FieldSorter::new, (x, n) -> x.draft(f, n, top), 0, top,
                n -> top - n + 1, OUTSIDE);
            bounds("draft(" + f + ", 0, n)", FieldSorter::new, (x, n) -> x.draft(f, 0, n), 0, top, n -> n + 1, OUTSIDE);
            bounds("draft(" + f + ", n, n)", FieldSorter::new, (x, n) -> x.draft(f, n, n), 0, top, n -> 1, OUTSIDE);
        }
    }

    private static void draftLowAboveHigh() {
        sentence("2 draft: OUTSIDE: low is greater than high");
        for (int f = 0; f < 4; f++) {
            for (int low = 0; low <= TOP[f]; low++) {
                FieldSorter x = new FieldSorter();
                for (int high = 0; high <= TOP[f]; high++) {
                    due("draft(" + f + ", " + low + ", " + high + ")", x.draft(f, low, high),
                        low > high ? OUTSIDE : high - low + 1);
                }
            }
        }
    }

    private static void ruleRank() {
        sentence("3 rule: OUTSIDE: the RANK; a RANK, 0 to 999");
        bounds("rule(n, 0)", FieldSorter::new, (x, n) -> x.rule(n, 0), 0, 999, n -> 0, OUTSIDE);
        for (int rank = 0; rank <= 999; rank++) {
            FieldSorter x = new FieldSorter();
            x.rule(rank, 0);
            due("told after rule(" + rank + ", 0)", x.told(0, 0), rank);
        }
    }

    private static void ruleAction() {
        sentence("3 rule: OUTSIDE: the ACTION; an ACTION, 0 to 9");
        bounds("rule(0, n)", FieldSorter::new, (x, n) -> x.rule(0, n), 0, 9, n -> 0, OUTSIDE);
        for (int action = 0; action <= 9; action++) {
            FieldSorter x = new FieldSorter();
            x.rule(0, action);
            due("told after rule(0, " + action + ")", x.told(0, 1), action);
            due("packets after rule(0, " + action + ")", x.packets(action), ALL);
        }
    }

    private static void rankRank() {
        sentence("5 rank: OUTSIDE");
        bounds("rank(0, n)", () -> withRules(1), (x, n) -> x.rank(0, n), 0, 999, n -> 0, OUTSIDE);
        for (int rank = 0; rank <= 999; rank += 37) {
            FieldSorter x = withRules(1);
            x.rank(0, rank);
            due("told after rank(0, " + rank + ")", x.told(0, 0), rank);
        }
    }

    /** Every call that names a RULE, with none, one, two and as many RULES as there may be. */
    private static void ruleNumbers() {
        for (int size : new int[] {0, 1, 2, MOST_RULES - 1, MOST_RULES}) {
            int last = size - 1;
            Supplier<FieldSorter> make = () -> withRules(size);
            sentence("4 drop: UNKNOWN, of " + size);
            bounds("drop", make, (x, n) -> x.drop(n), 0, last, n -> last, UNKNOWN);
            sentence("5 rank: UNKNOWN, of " + size);
            bounds("rank(n, 999)", make, (x, n) -> x.rank(n, 999), 0, last, n -> last, UNKNOWN);
            sentence("6 told: UNKNOWN, of " + size);
            bounds("told(n, 0)", make, (x, n) -> x.told(n, 0), 0, last, n -> 10 * n, UNKNOWN);
            bounds("told(n, 17)", make, (x, n) -> x.told(n, 17), 0, last, n -> 3, UNKNOWN);
            sentence("8 wins: UNKNOWN, of " + size);
            bounds("wins", make, (x, n) -> x.wins(n), 0, last, n -> ALL / 16, UNKNOWN);
            sentence("9 overlap: UNKNOWN: both, of " + size);
            bounds("overlap(n, 0)", make, (x, n) -> x.overlap(n, 0), 0, last, n -> n == 0 ? ALL / 16 : 0, UNKNOWN);
            bounds("overlap(0, n)", make, (x, n) -> x.overlap(0, n), 0, last, n -> n == 0 ? ALL / 16 : 0, UNKNOWN);
            bounds("overlap(n, n)", make, (x, n) -> x.overlap(n, n), 0, last, n -> ALL / 16, UNKNOWN);
            sentence("10 covered: UNKNOWN, of " + size);
            bounds("covered", make, (x, n) -> x.covered(n), 0, last, n -> NONE, UNKNOWN);
            sentence("11 idle: UNKNOWN, of " + size);
            bounds("idle", make, (x, n) -> x.idle(n), 0, last, n -> 0, UNKNOWN);
            sentence("13 split: UNKNOWN: the RULE, of " + size);
            bounds("split(n, 0)", make, (x, n) -> x.split(n, 0), 0, last, n -> 1, UNKNOWN);
            sentence("14 prefix: UNKNOWN: the RULE, of " + size);
            bounds("prefix(n, 0, 0, 0)", make, (x, n) -> x.prefix(n, 0, 0, 0), 0, last, n -> 4 * n, UNKNOWN);
        }
    }

    private static void splitFields() {
        sentence("13 split: UNKNOWN: the FIELD");
        bounds("split(0, n)", () -> withRules(1), (x, n) -> x.split(0, n), 0, 3, n -> 1, UNKNOWN);
        sentence("14 prefix: UNKNOWN: the FIELD");
        bounds("prefix(0, n, 0, 1)", () -> withRules(1), (x, n) -> x.prefix(0, n, 0, 1), 0, 3, n -> n == 0 ? 4 : 0,
            UNKNOWN);
    }

    private static FieldSorter oneRule() {
        FieldSorter x = new FieldSorter();
        add(x, 30, 4, 21, 22, 23, 24, 25, 26, 1, 2);
        return x;
    }

    private static void toldWhats() {
        sentence("6 told: OUTSIDE");
        int[] low = {30, 4, 0};
        bounds("told(0, n)", BoundsTest::oneRule, (x, n) -> x.told(0, n), 0, 2, n -> low[n], OUTSIDE);
        int[] high = {21, 22, 23, 24, 25, 26, 1, 2};
        bounds("told(0, n)", BoundsTest::oneRule, (x, n) -> x.told(0, n), 10, 17, n -> high[n - 10], OUTSIDE);
        for (int what = 3; what <= 9; what++) {
            due("told(0, " + what + ")", oneRule().told(0, what), OUTSIDE);
        }
    }

    /** The calls that take a PACKET; one RULE takes all of them. */
    private static void packets() {
        Supplier<FieldSorter> make = () -> {
            FieldSorter x = new FieldSorter();
            x.rule(0, 0);
            return x;
        };
        for (int field = 0; field < 4; field++) {
            int f = field;
            sentence("7 first: OUTSIDE, FIELD " + f);
            bounds("first", make, (x, n) -> first(x, packet(f, n)), 0, TOP[f], n -> 0, OUTSIDE);
            sentence("16 probe: OUTSIDE, FIELD " + f);
            bounds("probe", make, (x, n) -> probe(x, packet(f, n), 0), 0, TOP[f], n -> 0, OUTSIDE);
            bounds("probe", make, (x, n) -> probe(x, packet(f, n), 1), 0, TOP[f], n -> 1, OUTSIDE);
            sentence("19 walk: OUTSIDE, FIELD " + f);
            bounds("walk", make, (x, n) -> walk(x, packet(f, n), 1), 0, TOP[f], n -> 1, OUTSIDE);
            bounds("walk", make, (x, n) -> walk(x, packet(f, n), 13), 0, TOP[f], n -> 0, OUTSIDE);
        }
    }

    private static void whats() {
        Supplier<FieldSorter> one = () -> withRules(1);
        sentence("12 packets: OUTSIDE");
        int rest = ALL - ALL / 16;
        bounds("packets", one, (x, n) -> x.packets(n), -1, 9, n -> n == -1 ? rest : n == 0 ? ALL / 16 : 0, OUTSIDE);
        sentence("14 prefix: OUTSIDE: what");
        bounds("prefix(0, 0, 0, n)", one, (x, n) -> x.prefix(0, 0, 0, n), 0, 1, n -> 4 * n, OUTSIDE);
        sentence("15 tuple: OUTSIDE: what");
        int[] tuple = {4, 0, 0, 0, 1, 0, 1};
        bounds("tuple(0, n)", one, (x, n) -> x.tuple(0, n), 0, 6, n -> tuple[n], OUTSIDE);
        sentence("16 probe: OUTSIDE: what");
        int[] probe = {0, 1, 0};
        bounds("probe", one, (x, n) -> x.probe(0, 0, 0, 0, n), 0, 2, n -> probe[n], OUTSIDE);
        sentence("18 tree: OUTSIDE");
        int[] tree = {1, 1, 0, 1, 1, 0};
        bounds("tree", one, (x, n) -> x.tree(n), 0, 5, n -> tree[n], OUTSIDE);
        sentence("19 walk: OUTSIDE: what");
        int[] walk = {0, 1, 1};
        bounds("walk", one, (x, n) -> x.walk(0, 0, 0, 0, n), 0, 2, n -> walk[n], OUTSIDE);
        bounds("walk", one, (x, n) -> x.walk(0, 0, 0, 0, n), 10, 13, n -> 0, OUTSIDE);
        for (int what = 3; what <= 9; what++) {
            due("walk(0, 0, 0, 0, " + what + ")", withRules(1).walk(0, 0, 0, 0, what), OUTSIDE);
        }
        sentence("22 count: OUTSIDE");
        int[] count = {1, 1, 1, 2, 6, 0, 0, 0};
        bounds("count", one, (x, n) -> x.count(n), 0, 7, n -> count[n], OUTSIDE);
    }

    private static void places() {
        sentence("14 prefix: NONE: there is none such (i below 0, too)");
        // 1 to 62 is split into ten PREFIXES, 0 to 63 into one, 1 to 2 of FIELD 3 into two.
        Supplier<FieldSorter> make = () -> {
            FieldSorter x = new FieldSorter();
            add(x, 0, 0, 1, 62, 0, 63, 5, 5, 1, 2);
            return x;
        };
        int[] values = {1, 2, 4, 8, 16, 32, 48, 56, 60, 62};
        int[] lengths = {6, 5, 4, 3, 2, 2, 3, 4, 5, 6};
        bounds("prefix(0, 0, n, 0)", make, (x, n) -> x.prefix(0, 0, n, 0), 0, 9, n -> values[n], NONE);
        bounds("prefix(0, 0, n, 1)", make, (x, n) -> x.prefix(0, 0, n, 1), 0, 9, n -> lengths[n], NONE);
        bounds("prefix(0, 1, n, 0)", make, (x, n) -> x.prefix(0, 1, n, 0), 0, 0, n -> 0, NONE);
        bounds("prefix(0, 2, n, 0)", make, (x, n) -> x.prefix(0, 2, n, 0), 0, 0, n -> 5, NONE);
        bounds("prefix(0, 3, n, 0)", make, (x, n) -> x.prefix(0, 3, n, 0), 0, 1, n -> n + 1, NONE);
        sentence("15 tuple: NONE: there is none such (i below 0, too)");
        for (int what = 0; what <= 6; what++) {
            int w = what;
            int[] rest = {0, 0, 6, 2, 4, 0, 1};
            bounds("tuple(n, " + w + ")", make, (x, n) -> x.tuple(n, w), 0, 4, n -> w == 0 ? 6 - n : rest[w], NONE);
            bounds("tuple(n, " + w + ") of none", FieldSorter::new, (x, n) -> x.tuple(n, w), 0, -1, n -> 0, NONE);
        }
    }

    private static void growBounds() {
        sentence("17 grow: OUTSIDE: both; BIN (1 to 4; 2 at first)");
        bounds("grow(0, n)", FieldSorter::new, (x, n) -> x.grow(0, n), 1, 4, n -> 2, OUTSIDE);
        for (int n = 5; n <= 8; n++) {
            due("grow(0, " + n + ")", new FieldSorter().grow(0, n), OUTSIDE);
        }
        sentence("17 grow: OUTSIDE: both; DEEP (1 to 8; 6 at first)");
        bounds("grow(1, n)", FieldSorter::new, (x, n) -> x.grow(1, n), 1, 8, n -> 6, OUTSIDE);
        sentence("17 grow: OUTSIDE: what");
        bounds("grow(n, 1)", FieldSorter::new, (x, n) -> x.grow(n, 1), 0, 1, n -> n == 0 ? 2 : 6, OUTSIDE);
        sentence("17 grow: is n: which it was");
        FieldSorter x = new FieldSorter();
        int[] bins = {2, 1, 4, 4, 3, 2};
        for (int i = 0; i + 1 < bins.length; i++) {
            due("grow(0, " + bins[i + 1] + ")", x.grow(0, bins[i + 1]), bins[i]);
            due("count(3)", x.count(3), bins[i + 1]);
            due("count(4) is not touched", x.count(4), 6);
        }
        int[] deeps = {6, 8, 1, 1, 7, 2, 5, 4, 3, 6};
        for (int i = 0; i + 1 < deeps.length; i++) {
            due("grow(1, " + deeps[i + 1] + ")", x.grow(1, deeps[i + 1]), deeps[i]);
            due("count(4)", x.count(4), deeps[i + 1]);
            due("count(3) is not touched", x.count(3), 2);
        }
    }

    private static void imageBounds() {
        sentence("20 image: OUTSIDE; kept in an IMAGE (0, 1)");
        bounds("image", FieldSorter::new, (x, n) -> x.image(n), 0, 1, n -> 1, OUTSIDE);
        sentence("21 restore: OUTSIDE");
        bounds("restore of none", FieldSorter::new, (x, n) -> x.restore(n), 0, 1, n -> STATE, OUTSIDE);
        Supplier<FieldSorter> both = () -> {
            FieldSorter x = new FieldSorter();
            x.image(0);
            x.image(1);
            return x;
        };
        bounds("restore of both", both, (x, n) -> x.restore(n), 0, 1, n -> 1, OUTSIDE);
    }

    public static void main(String[] args) {
        draftField();
        draftNumbers();
        draftLowAboveHigh();
        ruleRank();
        ruleAction();
        rankRank();
        ruleNumbers();
        splitFields();
        toldWhats();
        packets();
        whats();
        places();
        growBounds();
        imageBounds();
        end();
    }
}
