/** Each promise of the document by itself: ordinary calls, the edges it names, wrong arguments. */
public final class PromiseTest extends Check {
    private static void constants() {
        sentence("constants");
        due("UNKNOWN", FieldSorter.UNKNOWN, -1);
        due("OUTSIDE", FieldSorter.OUTSIDE, -2);
        due("STATE", FieldSorter.STATE, -3);
        due("FULL", FieldSorter.FULL, -4);
        due("NO", FieldSorter.NO, -5);
        due("NONE", FieldSorter.NONE, -6);
    }

    private static void newObject() {
        sentence("1 new object");
        FieldSorter x = new FieldSorter();
        int[] counts = {0, 0, 0, 2, 6, 0, 0, 0};
        for (int what = 0; what < counts.length; what++) {
            due("count(" + what + ")", x.count(what), counts[what]);
        }
        due("restore(0)", x.restore(0), STATE);
        due("restore(1)", x.restore(1), STATE);
        due("packets(-1)", x.packets(-1), ALL);
        due("first", x.first(0, 0, 0, 0), NONE);
        due("rule", x.rule(0, 0), 0);
        int[] draft = {0, 63, 0, 63, 0, 63, 0, 3};
        for (int i = 0; i < draft.length; i++) {
            due("told(0, " + (10 + i) + ")", x.told(0, 10 + i), draft[i]);
        }
        FieldSorter y = new FieldSorter();
        due("another object's count(0)", y.count(0), 0);
    }

    private static void draft() {
        sentence("2 draft");
        FieldSorter x = new FieldSorter();
        due("one number", x.draft(1, 7, 7), 1);
        due("all numbers", x.draft(2, 0, 63), 64);
        due("greatest alone", x.draft(0, 63, 63), 1);
        due("field 3", x.draft(3, 0, 3), 4);
        due("field 3 again", x.draft(3, 1, 3), 3);
        for (int w : WILD) {
            due("field " + w, x.draft(w, 0, 1), UNKNOWN);
            due("low " + w, x.draft(0, w, 5), OUTSIDE);
            due("high " + w, x.draft(0, 0, w), OUTSIDE);
            due("field before number " + w, x.draft(4, w, w), UNKNOWN);
        }
        due("64", x.draft(1, 3, 64), OUTSIDE);
        due("64 twice", x.draft(1, 64, 64), OUTSIDE);
        due("4 in field 3", x.draft(3, 2, 4), OUTSIDE);
        due("63 in field 3", x.draft(3, 0, 63), OUTSIDE);
        due("low above high", x.draft(1, 9, 8), OUTSIDE);
        due("rule", x.rule(0, 0), 0);
        int[] kept = {63, 63, 7, 7, 0, 63, 1, 3};
        for (int i = 0; i < kept.length; i++) {
            due("told(0, " + (10 + i) + ")", x.told(0, 10 + i), kept[i]);
        }
    }

    private static void rule() {
        sentence("3 rule");
        FieldSorter x = new FieldSorter();
        x.draft(0, 4, 9);
        for (int w : WILD) {
            due("rank " + w, x.rule(w, 0), OUTSIDE);
            due("action " + w, x.rule(0, w), OUTSIDE);
        }
        due("rank 1000", x.rule(1000, 0), OUTSIDE);
        due("action 10", x.rule(0, 10), OUTSIDE);
        due("none was made", x.count(0), 0);
        due("first", x.rule(999, 9), 0);
        due("the draft it had", x.told(0, 10), 4);
        due("next", x.rule(0, 0), 1);
        due("the draft is all numbers", x.told(1, 10) + 100 * x.told(1, 11), 6300);
        for (int r = 2; r < 16; r++) {
            due("rule " + r, x.rule(5, 5), r);
        }
        x.draft(0, 1, 2);
        due("a 17th", x.rule(5, 5), FULL);
        due("a 17th that is outside", x.rule(5, 10), OUTSIDE);
        due("16 stay", x.count(0), 16);
        x.drop(3);
        due("16th again", x.rule(5, 5), 15);
        due("FULL left the draft", x.told(15, 10) + 100 * x.told(15, 11), 201);
    }

    private static void drop() {
        sentence("4 drop");
        FieldSorter x = new FieldSorter();
        due("of none", x.drop(0), UNKNOWN);
        for (int r = 0; r < 4; r++) {
            add(x, 10 * r, r, r, r + 20);
        }
        for (int w : WILD) {
            due("drop " + w, x.drop(w), UNKNOWN);
        }
        due("drop 4", x.drop(4), UNKNOWN);
        due("drop 1", x.drop(1), 3);
        due("number 0 stays", x.told(0, 0), 0);
        due("number 2 is 1", x.told(1, 0), 20);
        due("its action", x.told(1, 1), 2);
        due("its range", x.told(1, 10) + 100 * x.told(1, 11), 2202);
        due("number 3 is 2", x.told(2, 0), 30);
        due("no number 3", x.told(3, 0), UNKNOWN);
        due("first of 3", x.first(3, 0, 0, 0), 0);
        due("first of 23", x.first(23, 0, 0, 0), 2);
        due("drop the last", x.drop(2), 2);
        due("first of 23", x.first(23, 0, 0, 0), NONE);
        due("drop 0", x.drop(0), 1);
        due("drop 0", x.drop(0), 0);
        due("packets(-1)", x.packets(-1), ALL);
    }

    private static void rank() {
        sentence("5 rank");
        FieldSorter x = new FieldSorter();
        due("of none", x.rank(0, 0), UNKNOWN);
        add(x, 5, 0);
        add(x, 5, 1);
        add(x, 7, 2);
        for (int w : WILD) {
            due("rule " + w, x.rank(w, 0), UNKNOWN);
            due("rank " + w, x.rank(0, w), OUTSIDE);
            due("both " + w, x.rank(w, w), UNKNOWN);
        }
        due("rank 1000", x.rank(0, 1000), OUTSIDE);
        due("it is as it was", x.told(0, 0), 5);
        due("the same", x.rank(1, 5), 1);
        due("to 7, numbers decide", x.rank(0, 7), 1);
        due("first", x.first(1, 1, 1, 1), 1);
        due("the last to 5", x.rank(2, 5), 1);
        due("to 999", x.rank(1, 999), 2);
        due("to 0", x.rank(1, 0), 0);
        due("told", x.told(1, 0), 0);
    }

    private static void told() {
        sentence("6 told");
        FieldSorter x = new FieldSorter();
        due("of none", x.told(0, 0), UNKNOWN);
        add(x, 30, 4, 1, 2, 3, 4, 5, 6, 2, 3);
        add(x, 20, 5);
        add(x, 30, 6);
        int[] whats = {0, 1, 2, 10, 11, 12, 13, 14, 15, 16, 17};
        int[] wants = {30, 4, 1, 1, 2, 3, 4, 5, 6, 2, 3};
        for (int i = 0; i < whats.length; i++) {
            due("told(0, " + whats[i] + ")", x.told(0, whats[i]), wants[i]);
        }
        due("the first in order", x.told(1, 2), 0);
        due("the last in order", x.told(2, 2), 2);
        int[] outside = {-1, 3, 9, 18, 100, Integer.MIN_VALUE, Integer.MAX_VALUE, Integer.MIN_VALUE + 10};
        for (int w : outside) {
            due("what " + w, x.told(0, w), OUTSIDE);
            due("rule before what " + w, x.told(3, w), UNKNOWN);
        }
        due("rule -1", x.told(-1, 0), UNKNOWN);
    }

    private static void first() {
        sentence("7 first");
        FieldSorter x = new FieldSorter();
        add(x, 9, 0, 10, 20, 10, 20, 10, 20, 1, 2);
        add(x, 9, 1, 15, 25);
        due("corner below", x.first(10, 10, 10, 1), 0);
        due("corner above", x.first(20, 20, 20, 2), 0);
        due("one rank: the lower number", x.first(15, 15, 15, 1), 0);
        due("field 0 below", x.first(9, 10, 10, 1), NONE);
        due("field 0 above", x.first(26, 10, 10, 1), NONE);
        due("field 1 above", x.first(14, 21, 10, 1), NONE);
        due("field 2 below", x.first(14, 10, 9, 1), NONE);
        due("field 3 below", x.first(14, 10, 10, 0), NONE);
        due("field 3 above, the next fits", x.first(15, 10, 10, 3), 1);
        x.rank(1, 8);
        due("by rank now", x.first(15, 15, 15, 1), 1);
        for (int w : WILD) {
            due("a " + w, x.first(w, 0, 0, 0), OUTSIDE);
            due("b " + w, x.first(0, w, 0, 0), OUTSIDE);
            due("c " + w, x.first(0, 0, w, 0), OUTSIDE);
            due("d " + w, x.first(0, 0, 0, w), OUTSIDE);
        }
        due("b 64", x.first(0, 64, 0, 0), OUTSIDE);
        due("c 64", x.first(0, 0, 64, 0), OUTSIDE);
        due("d 4", x.first(0, 0, 0, 4), OUTSIDE);
        due("greatest of all", x.first(63, 63, 63, 3), NONE);
    }

    private static void wins() {
        sentence("8 wins");
        FieldSorter x = new FieldSorter();
        due("of none", x.wins(0), UNKNOWN);
        add(x, 2, 0, 0, 9, 0, 9, 0, 9, 0, 1);
        add(x, 1, 0, 5, 14, 5, 14, 5, 14, 1, 3);
        add(x, 3, 1);
        due("behind one", x.wins(0), 2000 - 125);
        due("ahead of all", x.wins(1), 3000);
        due("the rest", x.wins(2), ALL - 2000 - 3000 + 125);
        x.rank(0, 0);
        due("ahead now", x.wins(0), 2000);
        due("behind now", x.wins(1), 3000 - 125);
        x.drop(0);
        due("after a drop", x.wins(0), 3000);
        add(x, 0, 0, 5, 14, 5, 14, 5, 14, 1, 3);
        due("covered", x.wins(0), 0);
        for (int w : WILD) {
            due("wins " + w, x.wins(w), UNKNOWN);
        }
        due("wins 3", x.wins(3), UNKNOWN);
    }

    private static void overlap() {
        sentence("9 overlap");
        FieldSorter x = new FieldSorter();
        due("of none", x.overlap(0, 0), UNKNOWN);
        add(x, 2, 0, 0, 9, 0, 9, 0, 9, 0, 1);
        add(x, 1, 0, 9, 14, 5, 14, 5, 14, 1, 3);
        add(x, 3, 1);
        add(x, 3, 1, 10, 10);
        due("both", x.overlap(0, 1), 25);
        due("the other way", x.overlap(1, 0), 25);
        due("one", x.overlap(0, 0), 2000);
        due("with all", x.overlap(2, 0), 2000);
        due("all", x.overlap(2, 2), ALL);
        due("neighbours", x.overlap(0, 3), 0);
        due("far in field 0 alone", x.overlap(3, 1), 1 * 10 * 10 * 3);
        for (int w : WILD) {
            due("one " + w, x.overlap(w, 0), UNKNOWN);
            due("other " + w, x.overlap(0, w), UNKNOWN);
        }
        due("other 4", x.overlap(0, 4), UNKNOWN);
    }

    private static void covered() {
        sentence("10 covered");
        FieldSorter x = new FieldSorter();
        due("of none", x.covered(0), UNKNOWN);
        add(x, 5, 0, 10, 20, 10, 20, 10, 20, 1, 2);
        add(x, 4, 0, 10, 20, 10, 20, 10, 20, 1, 2);
        add(x, 3, 0);
        add(x, 3, 0, 10, 20, 10, 20, 10, 20, 1, 1);
        due("the first in order", x.covered(0), 2);
        due("by a rank ahead", x.covered(1), 2);
        due("none is ahead", x.covered(2), NONE);
        due("by one rank, a lower number", x.covered(3), 2);
        x.rank(2, 9);
        due("by one of the same ranges", x.covered(0), 1);
        due("smaller ones cover nothing", x.covered(1), NONE);
        due("all of it, from behind", x.covered(2), NONE);
        x.rank(1, 5);
        due("one rank, not by a higher number", x.covered(0), NONE);
        due("one rank, by a lower number", x.covered(1), 0);
        for (int w : WILD) {
            due("covered " + w, x.covered(w), UNKNOWN);
        }
        FieldSorter y = new FieldSorter();
        add(y, 1, 0, 0, 31);
        add(y, 1, 0, 32, 63);
        add(y, 2, 0);
        due("not by two together", y.covered(2), NONE);
        due("though it wins none", y.wins(2), 0);
        int[] short1 = {10, 20, 10, 20, 10, 20, 1, 2};
        for (int i = 0; i < 8; i++) {
            FieldSorter z = new FieldSorter();
            int[] outer = short1.clone();
            outer[i] += i % 2 == 0 ? 1 : -1;
            add(z, 0, 0, outer);
            add(z, 1, 0, short1);
            due("bound " + i + " is one short", z.covered(1), NONE);
        }
    }

    private static void idle() {
        sentence("11 idle");
        FieldSorter x = new FieldSorter();
        due("of none", x.idle(0), UNKNOWN);
        add(x, 1, 3, 0, 9);
        due("no next one", x.idle(0), 0);
        add(x, 2, 3, 0, 8);
        due("no next one for some", x.idle(0), 0);
        due("no packet's first", x.idle(1), 1);
        add(x, 3, 3, 5, 20);
        due("the next of all has its action", x.idle(0), 1);
        due("the last of some", x.idle(2), 0);
        x.rank(2, 2);
        add(x, 1, 4, 0, 0, 0, 0, 0, 0, 0, 0);
        due("another action, but it is behind", x.idle(0), 0);
        due("it is no packet's first", x.idle(3), 1);
        x.rank(3, 9);
        due("it is behind the next", x.idle(0), 1);
        x.rank(3, 0);
        due("ahead, and the next has another action", x.idle(3), 0);
        for (int w : WILD) {
            due("idle " + w, x.idle(w), UNKNOWN);
        }
    }

    private static void packets() {
        sentence("12 packets");
        FieldSorter x = new FieldSorter();
        add(x, 1, 0, 0, 0);
        add(x, 1, 9, 0, 1);
        add(x, 0, 0, 63, 63);
        due("none", x.packets(-1), 61 * 16384);
        due("two rules of one action", x.packets(0), 2 * 16384);
        due("9", x.packets(9), 16384);
        due("an action of no rule", x.packets(5), 0);
        int[] outside = {-2, 10, Integer.MIN_VALUE, Integer.MAX_VALUE};
        for (int w : outside) {
            due("packets " + w, x.packets(w), OUTSIDE);
        }
    }

    private static void split() {
        sentence("13 split");
        FieldSorter x = new FieldSorter();
        due("of none", x.split(0, 0), UNKNOWN);
        add(x, 0, 0, 1, 62, 0, 63, 63, 63, 1, 2);
        add(x, 0, 0, 1, 63, 0, 62, 31, 32, 0, 3);
        add(x, 0, 0, 16, 47, 8, 8, 3, 12, 1, 3);
        int[][] wants = {{10, 1, 1, 2}, {6, 6, 2, 1}, {2, 1, 4, 2}};
        for (int r = 0; r < 3; r++) {
            for (int f = 0; f < 4; f++) {
                due("split(" + r + ", " + f + ")", x.split(r, f), wants[r][f]);
            }
        }
        for (int w : WILD) {
            due("rule " + w, x.split(w, 0), UNKNOWN);
            due("field " + w, x.split(0, w), UNKNOWN);
        }
        due("field 4", x.split(0, 4), UNKNOWN);
    }

    private static void prefix() {
        sentence("14 prefix");
        FieldSorter x = new FieldSorter();
        due("of none", x.prefix(0, 0, 0, 0), UNKNOWN);
        add(x, 0, 0, 3, 12, 0, 63, 63, 63, 1, 3);
        int[][][] wants = {{{3, 6}, {4, 4}, {8, 4}, {12, 6}}, {{0, 0}}, {{63, 6}}, {{1, 2}, {2, 1}}};
        for (int f = 0; f < 4; f++) {
            for (int i = 0; i < wants[f].length; i++) {
                due("value " + i + " in " + f, x.prefix(0, f, i, 0), wants[f][i][0]);
                due("length " + i + " in " + f, x.prefix(0, f, i, 1), wants[f][i][1]);
            }
            due("none behind the last in " + f, x.prefix(0, f, wants[f].length, 0), NONE);
            due("none behind the last in " + f, x.prefix(0, f, wants[f].length, 1), NONE);
        }
        for (int w : WILD) {
            due("rule " + w, x.prefix(w, 0, 0, 0), UNKNOWN);
            due("field " + w, x.prefix(0, w, 0, 0), UNKNOWN);
            due("i " + w, x.prefix(0, 0, w, 0), NONE);
            due("what " + w, x.prefix(0, 0, 0, w), OUTSIDE);
            due("what before i " + w, x.prefix(0, 0, w, w), OUTSIDE);
            due("rule before what " + w, x.prefix(1, 0, w, w), UNKNOWN);
            due("field before what " + w, x.prefix(0, 4, w, w), UNKNOWN);
        }
        due("what 2", x.prefix(0, 0, 0, 2), OUTSIDE);
    }

    private static void tuple() {
        sentence("15 tuple");
        FieldSorter x = new FieldSorter();
        due("of none", x.tuple(0, 0), NONE);
        due("what before i", x.tuple(0, 7), OUTSIDE);
        // Rule 0 has LENGTHS 6, 4 (two each); 0; 6; 2, 1. Rule 1, ahead, has 4; 0; 6; 2, and is in one TUPLE of those.
        add(x, 7, 0, 3, 12, 0, 63, 63, 63, 1, 3);
        add(x, 6, 0, 16, 19, 0, 63, 1, 1, 2, 2);
        int[][] wants = {
            {4, 0, 6, 2, 3, 1, 2}, {6, 0, 6, 2, 2, 0, 1}, {6, 0, 6, 1, 2, 0, 1}, {4, 0, 6, 1, 2, 0, 1}};
        for (int i = 0; i < wants.length; i++) {
            for (int what = 0; what <= 6; what++) {
                due("tuple(" + i + ", " + what + ")", x.tuple(i, what), wants[i][what]);
            }
        }
        due("behind the last", x.tuple(4, 0), NONE);
        x.rank(0, 0);
        due("the other is ahead: first tuple", x.tuple(0, 0), 6);
        due("its best", x.tuple(2, 5), 0);
        due("the shared one", x.tuple(2, 6), 2);
        for (int w : WILD) {
            due("i " + w, x.tuple(w, 0), NONE);
            due("what " + w, x.tuple(0, w), OUTSIDE);
        }
        due("what 7", x.tuple(0, 7), OUTSIDE);
    }

    private static void mostTuples() {
        sentence("15 most tuples");
        FieldSorter x = new FieldSorter();
        for (int r = 0; r < 16; r++) {
            int[] ranges = new int[8];
            for (int f = 0; f < 3; f++) {
                ranges[2 * f + 1] = (r >> f & 1) == 0 ? 62 : 63;
            }
            ranges[7] = (r >> 3 & 1) == 0 ? 2 : 3;
            add(x, r, 0, ranges);
        }
        due("all tuples", x.count(1), 7 * 7 * 7 * 3);
        due("the last one's best", x.tuple(1028, 5), 15);
        due("none behind it", x.tuple(1029, 5), NONE);
        due("entries", x.count(2), 7 * 7 * 7 * 3);
    }

    private static void probe() {
        sentence("16 probe");
        FieldSorter x = new FieldSorter();
        due("of none", x.probe(0, 0, 0, 0, 0), NONE);
        due("none probed", x.probe(0, 0, 0, 0, 1), 0);
        due("no last", x.probe(0, 0, 0, 0, 2), NONE);
        // TUPLES in FIELD 0: LENGTH 6 (RULES 0 and 1), then 1 (RULE 0), then 0 (RULE 2).
        add(x, 5, 0, 0, 32);
        add(x, 6, 1, 40, 40);
        add(x, 7, 2);
        int[][] wants = {{32, 0, 1, 0}, {0, 0, 2, 1}, {31, 0, 2, 1}, {40, 1, 2, 1}, {41, 2, 3, 2}};
        for (int[] w : wants) {
            for (int what = 0; what < 3; what++) {
                due("probe(" + w[0] + ", .., " + what + ")", x.probe(w[0], 9, 9, 2, what), w[1 + what]);
            }
        }
        x.drop(2);
        due("nothing fits", x.probe(41, 9, 9, 2, 0), NONE);
        due("all are probed", x.probe(41, 9, 9, 2, 1), 2);
        due("the last", x.probe(41, 9, 9, 2, 2), 1);
        // A RULE found in a TUPLE of a better one gives way to one that is AHEAD in a later TUPLE.
        FieldSorter y = new FieldSorter();
        add(y, 1, 0, 0, 32);
        add(y, 2, 0, 5, 5);
        due("found at first, then one ahead", y.probe(5, 0, 0, 0, 0), 0);
        due("so both are probed", y.probe(5, 0, 0, 0, 1), 2);
        for (int w : WILD) {
            due("a " + w, x.probe(w, 0, 0, 0, 0), OUTSIDE);
            due("b " + w, x.probe(0, w, 0, 0, 0), OUTSIDE);
            due("c " + w, x.probe(0, 0, w, 0, 0), OUTSIDE);
            due("d " + w, x.probe(0, 0, 0, w, 0), OUTSIDE);
            due("what " + w, x.probe(0, 0, 0, 0, w), OUTSIDE);
        }
        due("what 3", x.probe(0, 0, 0, 0, 3), OUTSIDE);
        due("d 4", x.probe(0, 0, 0, 4, 0), OUTSIDE);
    }

    private static void grow() {
        sentence("17 grow");
        FieldSorter x = new FieldSorter();
        due("bin", x.grow(0, 4), 2);
        due("bin again", x.grow(0, 1), 4);
        due("deep", x.grow(1, 8), 6);
        due("deep again", x.grow(1, 1), 8);
        for (int w : WILD) {
            due("what " + w, x.grow(w, 1), OUTSIDE);
            due("bin " + w, x.grow(0, w), OUTSIDE);
            due("deep " + w, x.grow(1, w), OUTSIDE);
        }
        due("what 2", x.grow(2, 1), OUTSIDE);
        due("bin 0", x.grow(0, 0), OUTSIDE);
        due("bin 5", x.grow(0, 5), OUTSIDE);
        due("deep 0", x.grow(1, 0), OUTSIDE);
        due("deep 9", x.grow(1, 9), OUTSIDE);
        due("bin stays", x.count(3), 1);
        due("deep stays", x.count(4), 1);
    }

    private static void tree() {
        sentence("18 tree");
        FieldSorter x = new FieldSorter();
        dueTree(x, "no rule: the only tree with an empty leaf", 1, 1, 0, 0, 0, 1);
        for (int r = 0; r < 3; r++) {
            add(x, r, 0);
        }
        dueTree(x, "no field parts it", 1, 1, 0, 3, 3, 0);
        x = new FieldSorter();
        for (int r = 0; r < 4; r++) {
            add(x, r, 0, r, r);
        }
        // The first cut leaves all four in one half: no FIELD parts them, though a deeper cut would.
        dueTree(x, "four numbers, bin 2", 1, 1, 0, 4, 4, 0);
        add(x, 9, 0, 63, 63);
        dueTree(x, "and a far one", 3, 2, 1, 5, 4, 0);
        x = new FieldSorter();
        for (int r = 0; r < 4; r++) {
            add(x, r, 0, 0, 63, 16 * r, 16 * r + 15);
        }
        dueTree(x, "four quarters, bin 2", 3, 2, 1, 4, 2, 0);
        x.grow(0, 1);
        dueTree(x, "four quarters, bin 1", 7, 4, 2, 4, 1, 0);
        x.grow(1, 1);
        dueTree(x, "four quarters, deep 1", 3, 2, 1, 4, 2, 0);
        x.grow(0, 4);
        dueTree(x, "four quarters, bin 4", 1, 1, 0, 4, 4, 0);
        int[] outside = {-1, 6, Integer.MIN_VALUE, Integer.MAX_VALUE};
        for (int w : outside) {
            due("tree " + w, x.tree(w), OUTSIDE);
        }
    }

    private static void fieldCut() {
        sentence("18 which field is cut");
        FieldSorter y = new FieldSorter();
        // FIELDS 0 and 1 both leave two and one: the least FIELD is cut.
        add(y, 0, 0, 0, 31, 0, 31);
        add(y, 1, 0, 0, 31, 32, 63);
        add(y, 2, 0, 32, 63, 0, 31);
        due("bin 2: a cut", y.tree(0), 3);
        due("in field 0", y.walk(0, 0, 0, 0, 10), 1);
        due("not in field 1", y.walk(0, 0, 0, 0, 11), 0);
        due("no leaf is empty", y.tree(5), 0);
        FieldSorter z = new FieldSorter();
        // FIELD 0 leaves three and one, FIELD 3 two and two, with as many in both: the half with more decides.
        add(z, 0, 0, 0, 31, 0, 63, 0, 63, 0, 1);
        add(z, 1, 0, 0, 31, 0, 63, 0, 63, 0, 0);
        add(z, 2, 0, 0, 31, 0, 63, 0, 63, 2, 3);
        add(z, 3, 0, 32, 63, 0, 63, 0, 63, 3, 3);
        due("not in field 0", z.walk(0, 0, 0, 0, 10), 0);
        due("in field 3", z.walk(0, 0, 0, 0, 13), 1);
        FieldSorter x = new FieldSorter();
        // FIELD 0 leaves two and two, FIELD 1 two and one: both together decide.
        add(x, 0, 0, 0, 63, 0, 31);
        add(x, 1, 0, 0, 31, 0, 31);
        add(x, 2, 0, 32, 63, 32, 63);
        due("fewest in both: not in field 0", x.walk(0, 0, 0, 0, 10), 0);
        due("fewest in both: in field 1", x.walk(0, 0, 0, 0, 11), 1);
        z.grow(0, 1);
        due("bin 1: two that no field parts", z.tree(4), 2);
    }

    private static void walk() {
        sentence("19 walk");
        FieldSorter x = new FieldSorter();
        int[] whats = {0, 1, 2, 10, 11, 12, 13};
        for (int what : whats) {
            due("no rule, " + what, x.walk(0, 0, 0, 0, what), 0);
        }
        x.grow(0, 1);
        for (int d = 0; d < 4; d++) {
            add(x, 9 - d, 0, 0, 63, 0, 63, 0, 63, d, d);
        }
        add(x, 5, 0, 40, 63);
        // FIELD 3 is cut twice; FIELD 0 never parts, for its upper half has all the RULES.
        due("below 40: deep", x.walk(10, 0, 0, 0, 0), 2);
        due("below 40: rules", x.walk(10, 0, 0, 0, 1), 2);
        due("below 40: cuts of field 0", x.walk(10, 0, 0, 0, 10), 0);
        due("below 40: cuts of field 3", x.walk(10, 0, 0, 0, 13), 2);
        due("the greatest half is cut, too", x.walk(10, 0, 0, 3, 13), 2);
        due("at 40: deep", x.walk(40, 0, 0, 0, 0), 2);
        due("at 40: rules", x.walk(40, 0, 0, 0, 1), 2);
        due("at 40, rule 4 is ahead", x.walk(40, 0, 0, 0, 2), 1);
        due("at 35: rule 4 is looked at and does not fit", x.walk(35, 0, 0, 0, 2), 2);
        due("at 35, rule 3 with rank 6 is behind it", x.walk(35, 0, 0, 3, 2), 2);
        x.rank(4, 999);
        due("at 35, rule 4 is behind now", x.walk(35, 0, 0, 3, 2), 1);
        FieldSorter z = new FieldSorter();
        z.grow(0, 1);
        add(z, 0, 0, 0, 31, 0, 31);
        add(z, 1, 0, 0, 31, 32, 63, 0, 31);
        add(z, 2, 0, 0, 31, 32, 63, 32, 63);
        add(z, 3, 0, 32, 63);
        // FIELD 1 leaves 3 and 2, FIELD 2 3 and 3, FIELD 0 3 and 1; below it FIELD 1 leaves 2 and 1; then FIELD 2.
        int[][] wants = {{40, 0, 0, 1, 1, 1, 1, 0, 0, 0}, {0, 0, 0, 2, 1, 1, 1, 1, 0, 0},
            {0, 32, 0, 3, 1, 1, 1, 1, 1, 0}, {31, 63, 63, 3, 1, 1, 1, 1, 1, 0}};
        for (int[] w : wants) {
            for (int i = 0; i < whats.length; i++) {
                due("walk(" + w[0] + ", " + w[1] + ", " + w[2] + ", 3, " + whats[i] + ")",
                    z.walk(w[0], w[1], w[2], 3, whats[i]), w[3 + i]);
            }
        }
        FieldSorter y = new FieldSorter();
        add(y, 0, 0, 0, 0);
        add(y, 0, 0, 1, 1);
        due("none fits: all are looked at", y.walk(5, 0, 0, 0, 2), 2);
        due("the second", y.walk(1, 0, 0, 0, 2), 2);
        for (int w : WILD) {
            due("a " + w, x.walk(w, 0, 0, 0, 0), OUTSIDE);
            due("b " + w, x.walk(0, w, 0, 0, 0), OUTSIDE);
            due("c " + w, x.walk(0, 0, w, 0, 0), OUTSIDE);
            due("d " + w, x.walk(0, 0, 0, w, 0), OUTSIDE);
            due("what " + w, x.walk(0, 0, 0, 0, w), OUTSIDE);
        }
        for (int what = 3; what < 10; what++) {
            due("what " + what, x.walk(0, 0, 0, 0, what), OUTSIDE);
        }
        due("what 14", x.walk(0, 0, 0, 0, 14), OUTSIDE);
    }

    private static void images() {
        sentence("20, 21 image, restore");
        FieldSorter x = new FieldSorter();
        add(x, 7, 3, 1, 2, 3, 4);
        add(x, 6, 4);
        x.grow(0, 3);
        due("image 0", x.image(0), 1);
        due("kept", x.count(7), 1);
        due("nothing in 1", x.restore(1), STATE);
        x.grow(0, 1);
        x.grow(1, 8);
        x.rank(0, 2);
        x.drop(1);
        due("image 1", x.image(1), 1);
        due("both kept", x.count(7), 3);
        x.drop(0);
        x.draft(2, 5, 6);
        due("restore 0", x.restore(0), 1);
        due("rules", x.count(0), 2);
        due("rank", x.told(0, 0), 7);
        due("action", x.told(0, 1), 3);
        due("range", x.told(0, 10) + 100 * x.told(0, 13), 401);
        due("order", x.told(0, 2), 1);
        due("first", x.first(1, 3, 0, 0), 1);
        due("wins", x.wins(1), ALL);
        due("tuples", x.count(1), 2);
        due("bin", x.count(3), 3);
        due("deep", x.count(4), 6);
        due("the draft is not the image's", add(x, 1, 1), 2);
        due("it was kept beside it", x.told(2, 14) + 100 * x.told(2, 15), 605);
        due("restore 1", x.restore(1), 1);
        due("rules of 1", x.count(0), 1);
        due("bin of 1", x.count(3), 1);
        due("deep of 1", x.count(4), 8);
        due("rank of 1", x.told(0, 0), 2);
        due("the image stays", x.restore(0), 1);
        due("what came after it is gone", x.count(0), 2);
        x.drop(0);
        due("in place of what was kept", x.image(0), 1);
        x.drop(0);
        x.restore(0);
        due("the new one", x.count(0), 1);
        due("its rank", x.told(0, 0), 6);
        due("still both kept", x.count(7), 3);
        for (int w : WILD) {
            due("image " + w, x.image(w), OUTSIDE);
            due("restore " + w, x.restore(w), OUTSIDE);
        }
        due("image 2", x.image(2), OUTSIDE);
        due("restore 2", x.restore(2), OUTSIDE);
        FieldSorter y = new FieldSorter();
        due("an empty one is kept, too", y.image(1), 1);
        due("the second alone", y.count(7), 2);
        y.rule(0, 0);
        due("restored", y.restore(1), 1);
        due("no rule", y.count(0), 0);
    }

    private static void count() {
        sentence("22 count");
        FieldSorter x = new FieldSorter();
        add(x, 7, 0, 3, 12, 0, 63, 63, 63, 1, 3);
        add(x, 6, 0, 16, 19, 0, 63, 1, 1, 2, 2);
        add(x, 8, 0, 16, 19, 0, 63, 1, 1, 2, 2);
        add(x, 8, 0, 4, 4, 0, 63, 63, 63, 1, 1);
        add(x, 9, 5, 60, 60);
        x.grow(0, 4);
        x.grow(1, 3);
        x.image(1);
        int[] wants = {5, 5, 8 + 1 + 1 + 1 + 1, 4, 3, 3, 2, 2};
        for (int what = 0; what < wants.length; what++) {
            due("count(" + what + ")", x.count(what), wants[what]);
        }
        for (int w : WILD) {
            due("count " + w, x.count(w), OUTSIDE);
        }
        due("count 8", x.count(8), OUTSIDE);
    }

    public static void main(String[] args) {
        constants();
        newObject();
        draft();
        rule();
        drop();
        rank();
        told();
        first();
        wins();
        overlap();
        covered();
        idle();
        packets();
        split();
        prefix();
        tuple();
        mostTuples();
        probe();
        grow();
        tree();
        fieldCut();
        walk();
        images();
        count();
        end();
    }
}
