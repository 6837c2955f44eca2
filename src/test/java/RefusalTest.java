import java.util.ArrayList;
import java.util.Arrays;
import java.util.LinkedHashMap;
import java.util.List;
import java.util.Map;

/** Calls for which several refusals fit, and that no refused call, nor one that only asks, changes anything. */
public final class RefusalTest extends Check {
    private interface Call {
        int on(FieldSorter x);
    }

    private interface View {
        void look(FieldSorter x, List<Integer> seen);
    }

    private static final int STATES = 4;

    /** The states that calls are refused in: new; part filled, asked before or not; full. */
    private static FieldSorter make(int state) {
        FieldSorter x = new FieldSorter();
        if (state == 0) {
            return x;
        }
        x.draft(1, 8, 40);
        x.image(1);
        int rules = state == 3 ? MOST_RULES : 5;
        for (int r = 0; r < rules; r++) {
            add(x, 100 - 7 * (r % 4), r % 3, r, 63 - 2 * r, 3 * r, 3 * r + 8);
            if (r == 3) {
                x.image(0);
                x.grow(0, 1);
                x.grow(1, 4);
            }
        }
        x.draft(0, 9, 17);
        x.draft(3, 2, 3);
        if (state == 2) {
            x.wins(0);
            x.count(1);
            x.probe(9, 9, 9, 2, 2);
            x.tree(0);
            x.walk(9, 9, 9, 2, 10);
        }
        return x;
    }

    private static void lookAtRules(FieldSorter x, List<Integer> seen) {
        int n = x.count(0);
        seen.add(n);
        for (int r = 0; r <= n; r++) {
            for (int what = 0; what <= 17; what++) {
                seen.add(x.told(r, what));
            }
        }
        for (int what = 0; what <= 7; what++) {
            seen.add(x.count(what));
        }
    }

    private static void lookAtPackets(FieldSorter x, List<Integer> seen) {
        for (int r = 0; r < MOST_RULES; r++) {
            seen.add(x.wins(r));
            seen.add(x.idle(r));
            seen.add(x.covered(r));
            seen.add(x.overlap(r, 15 - r));
        }
        for (int what = -1; what <= 9; what++) {
            seen.add(x.packets(what));
        }
        for (int a = 0; a < 64; a += 3) {
            seen.add(x.first(a, a / 2, a, a % 4));
        }
    }

    private static void lookAtTuples(FieldSorter x, List<Integer> seen) {
        for (int i = 0; i < 40; i++) {
            for (int what = 0; what <= 6; what++) {
                seen.add(x.tuple(i, what));
            }
        }
        for (int a = 0; a < 64; a += 3) {
            for (int what = 0; what <= 2; what++) {
                seen.add(x.probe(a, a / 2, a, a % 4, what));
            }
        }
    }

    private static void lookAtTree(FieldSorter x, List<Integer> seen) {
        for (int what = 0; what <= 5; what++) {
            seen.add(x.tree(what));
        }
        for (int a = 0; a < 64; a += 2) {
            for (int what : new int[] {0, 1, 2, 10, 11, 12, 13}) {
                seen.add(x.walk(a, a / 2, a, a % 4, what));
            }
        }
    }

    private static void lookAtDraft(FieldSorter x, List<Integer> seen) {
        seen.add(x.drop(15));
        int made = x.rule(0, 0);
        for (int what = 10; what <= 17; what++) {
            seen.add(x.told(made, what));
        }
    }

    private static void lookAtFirstImage(FieldSorter x, List<Integer> seen) {
        seen.add(x.restore(0));
        lookAtRules(x, seen);
    }

    private static void lookAtSecondImage(FieldSorter x, List<Integer> seen) {
        seen.add(x.restore(1));
        lookAtRules(x, seen);
    }

    /** All that can be seen of an object; each look has an object of its own, for some looks change it. */
    private static final View[] VIEWS = {RefusalTest::lookAtRules, RefusalTest::lookAtPackets,
        RefusalTest::lookAtTuples, RefusalTest::lookAtTree, RefusalTest::lookAtDraft, RefusalTest::lookAtFirstImage,
        RefusalTest::lookAtSecondImage};

    private static int differing(int state, Call call) {
        int n = 0;
        for (View view : VIEWS) {
            List<Integer> untouched = new ArrayList<>();
            view.look(make(state), untouched);
            List<Integer> touched = new ArrayList<>();
            FieldSorter x = make(state);
            call.on(x);
            view.look(x, touched);
            n += untouched.equals(touched) ? 0 : 1;
        }
        return n;
    }

    private static void refused(Map<String, Call> calls, int refusal, int... states) {
        for (int state : states) {
            for (Map.Entry<String, Call> c : calls.entrySet()) {
                String name = c.getKey() + " in state " + state;
                due(name, c.getValue().on(make(state)), refusal);
                due(name + ", what it changes", differing(state, c.getValue()), 0);
            }
        }
    }

    private static void unknownFirst() {
        sentence("Calls that are refused answer the first of these that fits: UNKNOWN -1 (no such FIELD, RULE), OUTSIDE -2");
        Map<String, Call> calls = new LinkedHashMap<>();
        calls.put("draft(4, 0, 0)", x -> x.draft(4, 0, 0));
        calls.put("draft(-1, -1, 64)", x -> x.draft(-1, -1, 64));
        calls.put("draft(4, 64, 0)", x -> x.draft(4, 64, 0));
        calls.put("draft(4, 3, 2)", x -> x.draft(4, 3, 2));
        calls.put("rank(16, 1000)", x -> x.rank(16, 1000));
        calls.put("rank(-1, -1)", x -> x.rank(-1, -1));
        calls.put("rank(16, 5)", x -> x.rank(16, 5));
        calls.put("told(16, 3)", x -> x.told(16, 3));
        calls.put("told(-1, 18)", x -> x.told(-1, 18));
        calls.put("drop(16)", x -> x.drop(16));
        calls.put("drop(-1)", x -> x.drop(-1));
        calls.put("wins(16)", x -> x.wins(16));
        calls.put("overlap(16, -1)", x -> x.overlap(16, -1));
        calls.put("covered(-1)", x -> x.covered(-1));
        calls.put("idle(16)", x -> x.idle(16));
        calls.put("split(16, 4)", x -> x.split(16, 4));
        calls.put("split(0, -1)", x -> x.split(0, -1));
        calls.put("prefix(16, 0, 0, 2)", x -> x.prefix(16, 0, 0, 2));
        calls.put("prefix(0, 4, 0, 2)", x -> x.prefix(0, 4, 0, 2));
        calls.put("prefix(-1, -1, -1, -1)", x -> x.prefix(-1, -1, -1, -1));
        calls.put("prefix(16, 0, 99, 0)", x -> x.prefix(16, 0, 99, 0));
        refused(calls, UNKNOWN, 0, 1, 2, 3);
        Map<String, Call> ofNone = new LinkedHashMap<>();
        ofNone.put("rank(0, 1000)", x -> x.rank(0, 1000));
        ofNone.put("told(0, 3)", x -> x.told(0, 3));
        ofNone.put("prefix(0, 0, -1, 2)", x -> x.prefix(0, 0, -1, 2));
        ofNone.put("drop(0)", x -> x.drop(0));
        refused(ofNone, UNKNOWN, 0);
        Map<String, Call> ofFive = new LinkedHashMap<>();
        ofFive.put("drop(5)", x -> x.drop(5));
        ofFive.put("rank(5, 0)", x -> x.rank(5, 0));
        ofFive.put("rank(5, 1000)", x -> x.rank(5, 1000));
        refused(ofFive, UNKNOWN, 1, 2);
    }

    private static void outsideAlone() {
        sentence("OUTSIDE -2 (another number is not as told); What is refused changes nothing.");
        Map<String, Call> calls = new LinkedHashMap<>();
        for (int f = 0; f < 4; f++) {
            int field = f;
            calls.put("draft(" + f + ", -1, 0)", x -> x.draft(field, -1, 0));
            calls.put("draft(" + f + ", 0, top + 1)", x -> x.draft(field, 0, TOP[field] + 1));
            calls.put("draft(" + f + ", 2, 1)", x -> x.draft(field, 2, 1));
        }
        calls.put("packets(-2)", x -> x.packets(-2));
        calls.put("packets(10)", x -> x.packets(10));
        calls.put("grow(0, 0)", x -> x.grow(0, 0));
        calls.put("grow(0, 5)", x -> x.grow(0, 5));
        calls.put("grow(1, 0)", x -> x.grow(1, 0));
        calls.put("grow(1, 9)", x -> x.grow(1, 9));
        calls.put("grow(2, 3)", x -> x.grow(2, 3));
        calls.put("grow(-1, 3)", x -> x.grow(-1, 3));
        calls.put("grow(-1, 9)", x -> x.grow(-1, 9));
        calls.put("tree(6)", x -> x.tree(6));
        calls.put("image(2)", x -> x.image(2));
        calls.put("image(-1)", x -> x.image(-1));
        calls.put("restore(2)", x -> x.restore(2));
        calls.put("restore(-1)", x -> x.restore(-1));
        calls.put("count(8)", x -> x.count(8));
        refused(calls, OUTSIDE, 0, 1, 2, 3);
        Map<String, Call> ofSome = new LinkedHashMap<>();
        ofSome.put("rank(0, 1000)", x -> x.rank(0, 1000));
        ofSome.put("rank(4, -1)", x -> x.rank(4, -1));
        ofSome.put("told(0, 9)", x -> x.told(0, 9));
        refused(ofSome, OUTSIDE, 1, 2, 3);
    }

    /** NONE is no refusal, so what makes a call refused comes ahead of it. */
    private static void outsideBeforeNone() {
        sentence("OUTSIDE -2 ahead of NONE: there is none");
        Map<String, Call> calls = new LinkedHashMap<>();
        calls.put("tuple(-1, 7)", x -> x.tuple(-1, 7));
        calls.put("tuple(2000, -1)", x -> x.tuple(2000, -1));
        calls.put("first(64, 0, 0, 0)", x -> x.first(64, 0, 0, 0));
        calls.put("first(0, 0, 0, 4)", x -> x.first(0, 0, 0, 4));
        calls.put("probe(0, 64, 0, 0, 0)", x -> x.probe(0, 64, 0, 0, 0));
        calls.put("probe(0, 0, 0, 0, 3)", x -> x.probe(0, 0, 0, 0, 3));
        calls.put("probe(0, 0, -1, 0, 3)", x -> x.probe(0, 0, -1, 0, 3));
        calls.put("walk(0, 0, 0, -1, 0)", x -> x.walk(0, 0, 0, -1, 0));
        calls.put("walk(0, 0, 0, 0, 3)", x -> x.walk(0, 0, 0, 0, 3));
        calls.put("walk(0, 64, 0, 0, 14)", x -> x.walk(0, 64, 0, 0, 14));
        refused(calls, OUTSIDE, 0, 1, 2, 3);
        Map<String, Call> ofSome = new LinkedHashMap<>();
        ofSome.put("prefix(0, 0, -1, 2)", x -> x.prefix(0, 0, -1, 2));
        ofSome.put("prefix(0, 0, 99, -1)", x -> x.prefix(0, 0, 99, -1));
        refused(ofSome, OUTSIDE, 1, 2, 3);
    }

    private static void outsideBeforeFull() {
        sentence("OUTSIDE -2 (another number is not as told), .. FULL -4");
        Map<String, Call> outside = new LinkedHashMap<>();
        outside.put("rule(1000, 0)", x -> x.rule(1000, 0));
        outside.put("rule(-1, 0)", x -> x.rule(-1, 0));
        outside.put("rule(0, 10)", x -> x.rule(0, 10));
        outside.put("rule(0, -1)", x -> x.rule(0, -1));
        outside.put("rule(1000, 10)", x -> x.rule(1000, 10));
        refused(outside, OUTSIDE, 0, 1, 2, 3);
        sentence("FULL -4; What is refused changes nothing.");
        Map<String, Call> full = new LinkedHashMap<>();
        full.put("rule(0, 0)", x -> x.rule(0, 0));
        full.put("rule(999, 9)", x -> x.rule(999, 9));
        refused(full, FULL, 3);
    }

    private static void stateAndOutside() {
        sentence("STATE: nothing was kept in it; What is refused changes nothing.");
        Map<String, Call> calls = new LinkedHashMap<>();
        calls.put("restore(0)", x -> x.restore(0));
        calls.put("restore(1)", x -> x.restore(1));
        refused(calls, STATE, 0);
        FieldSorter x = withRules(3);
        x.grow(0, 4);
        x.image(0);
        x.drop(0);
        due("the other one is kept", x.restore(1), STATE);
        due("RULES stay", x.count(0), 2);
        sentence("OUTSIDE -2 .. STATE -3");
        due("restore(2), nothing kept", new FieldSorter().restore(2), OUTSIDE);
        due("restore(-1), nothing kept", new FieldSorter().restore(-1), OUTSIDE);
    }

    private static void askingChangesNothing() {
        sentence("calls that only ask change nothing");
        Map<String, Call> calls = new LinkedHashMap<>();
        calls.put("told", x -> x.told(0, 2));
        calls.put("first", x -> x.first(9, 9, 9, 2));
        calls.put("wins", x -> x.wins(1));
        calls.put("overlap", x -> x.overlap(0, 1));
        calls.put("covered", x -> x.covered(2));
        calls.put("idle", x -> x.idle(3));
        calls.put("packets", x -> x.packets(-1));
        calls.put("split", x -> x.split(2, 1));
        calls.put("prefix", x -> x.prefix(2, 1, 1, 0));
        calls.put("tuple", x -> x.tuple(3, 4));
        calls.put("probe", x -> x.probe(63, 63, 63, 3, 1));
        calls.put("tree", x -> x.tree(0));
        calls.put("walk", x -> x.walk(63, 0, 63, 3, 10));
        calls.put("count", x -> x.count(2));
        calls.put("a RANK that is the same", x -> x.rank(1, x.told(1, 0)));
        calls.put("a BIN that is the same", x -> x.grow(0, x.count(3)));
        for (int state = 0; state < STATES; state++) {
            for (Map.Entry<String, Call> c : calls.entrySet()) {
                due(c.getKey() + " in state " + state + ", what it changes", differing(state, c.getValue()), 0);
            }
        }
    }

    /** The looks themselves: a call that does change something is seen by one of them. */
    private static void looksSeeChanges() {
        sentence("the looks see what is changed");
        Map<String, Call> calls = new LinkedHashMap<>();
        calls.put("draft", x -> x.draft(2, 1, 1));
        calls.put("drop", x -> x.drop(2));
        calls.put("rank", x -> x.rank(3, 0));
        calls.put("grow BIN", x -> x.grow(0, 3));
        calls.put("grow DEEP", x -> x.grow(1, 3));
        calls.put("image 0", x -> x.image(0));
        calls.put("image 1", x -> x.image(1));
        calls.put("restore", x -> x.restore(0));
        for (int state = 1; state < STATES; state++) {
            for (Map.Entry<String, Call> c : calls.entrySet()) {
                due(c.getKey() + " in state " + state + " is seen", differing(state, c.getValue()) > 0 ? 1 : 0, 1);
            }
        }
    }

    /** LANGUAGE.md: No call may ever throw, for any arguments; here every mix of edges and far numbers. */
    private static void anyArguments() {
        sentence("any arguments are answered");
        int[] numbers = {Integer.MIN_VALUE, -1, 0, 3, 15, 64, 999, Integer.MAX_VALUE};
        int answered = 0;
        for (int state = 0; state < STATES; state++) {
            for (int i : numbers) {
                for (int j : numbers) {
                    FieldSorter x = make(state);
                    int[] answers = {x.drop(i), x.wins(i), x.covered(i), x.idle(i), x.packets(i), x.tree(i),
                        x.image(i), x.restore(i), x.count(i), x.rule(i, j), x.rank(i, j), x.told(i, j),
                        x.overlap(i, j), x.split(i, j), x.tuple(i, j), x.grow(i, j)};
                    answered += answers.length;
                    for (int k : numbers) {
                        x.draft(i, j, k);
                        x.prefix(i, j, k, i & 1);
                        x.prefix(i, j, 0, k);
                        x.first(i, j, k, i);
                        x.probe(i, j, k, 0, j);
                        x.walk(i, j, k, 0, j);
                    }
                }
            }
        }
        due("how many answers", answered, STATES * 8 * 8 * 16);
    }

    /** What the calls of one state answer is worked out again for each object: objects share nothing. */
    private static void objectsShareNothing() {
        sentence("objects share nothing");
        FieldSorter x = make(3);
        FieldSorter y = new FieldSorter();
        y.rule(0, 9);
        y.image(0);
        y.grow(0, 4);
        List<Integer> seen = new ArrayList<>();
        lookAtRules(x, seen);
        List<Integer> want = new ArrayList<>();
        lookAtRules(make(3), want);
        due("another object's calls", seen.equals(want) ? 1 : 0, 1);
        due("its own", Arrays.equals(new int[] {y.count(0), y.wins(0), y.count(3)}, new int[] {1, ALL, 4}) ? 1 : 0, 1);
    }

    public static void main(String[] args) {
        unknownFirst();
        outsideAlone();
        outsideBeforeNone();
        outsideBeforeFull();
        stateAndOutside();
        askingChangesNothing();
        looksSeeChanges();
        anyArguments();
        objectsShareNothing();
        end();
    }
}
