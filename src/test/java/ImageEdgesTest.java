/** Part 4 of the document, images and counts, and the object as a whole: boundary cases, a sentence at a time. */
public final class ImageEdgesTest extends Check {
    private static final int CALLS = 512;

    /** All that an object with no RULE answers, however it came to have none. */
    private static void dueNoRule(FieldSorter x, String when, int bin, int deep, int kept) {
        int[] counts = {0, 0, 0, bin, deep, 0, 0, kept};
        for (int what = 0; what <= 7; what++) {
            due(when + ": count(" + what + ")", x.count(what), counts[what]);
        }
        int[] unknown = {x.drop(0), x.rank(0, 0), x.told(0, 0), x.wins(0), x.overlap(0, 0), x.covered(0), x.idle(0),
            x.split(0, 0), x.prefix(0, 0, 0, 0)};
        for (int i = 0; i < unknown.length; i++) {
            due(when + ": call " + i + " of a RULE", unknown[i], UNKNOWN);
        }
        for (int action = 0; action <= 9; action++) {
            due(when + ": packets(" + action + ")", x.packets(action), 0);
        }
        due(when + ": packets(-1)", x.packets(-1), ALL);
        int[][] packets = {{0, 0, 0, 0}, {63, 63, 63, 3}, {31, 32, 31, 1}};
        int[] whats = {0, 1, 2, 10, 11, 12, 13};
        for (int[] p : packets) {
            due(when + ": first", first(x, p), NONE);
            due(when + ": found", probe(x, p, 0), NONE);
            due(when + ": probed", probe(x, p, 1), 0);
            due(when + ": probed last", probe(x, p, 2), NONE);
            for (int what : whats) {
                due(when + ": walk .. " + what, walk(x, p, what), 0);
            }
        }
        for (int what = 0; what <= 6; what++) {
            due(when + ": tuple(0, " + what + ")", x.tuple(0, what), NONE);
        }
        dueTree(x, when, 1, 1, 0, 0, 0, 1);
    }

    private static void noRule() {
        sentence("FieldSorter(): No RULE; BIN 2, DEEP 6; no IMAGE is kept.");
        dueNoRule(new FieldSorter(), "new", 2, 6, 0);
        due("restore(0)", new FieldSorter().restore(0), STATE);
        due("restore(1)", new FieldSorter().restore(1), STATE);
        sentence("No RULE, after the last has gone");
        FieldSorter x = withRules(MOST_RULES);
        due("asked before", x.wins(3) + x.count(1), ALL / 16 + 1);
        for (int left = 15; left >= 0; left--) {
            x.drop(left);
        }
        dueNoRule(x, "all dropped", 2, 6, 0);
        sentence("No RULE, by an IMAGE of none");
        FieldSorter y = new FieldSorter();
        y.image(1);
        for (int r = 0; r < MOST_RULES; r++) {
            y.rule(r, 0);
        }
        y.grow(0, 4);
        y.grow(1, 1);
        due("asked before", y.wins(0) + y.tuple(0, 6) + y.tree(3), ALL + 32);
        due("restore(1)", y.restore(1), 1);
        dueNoRule(y, "restored", 2, 6, 2);
        due("rules from 0 on", y.rule(0, 0), 0);
    }

    private static void whichAreKept() {
        sentence("7 which IMAGES are kept (1 the first, 2 the second, added)");
        int[][] kept = {{}, {0}, {1}, {0, 1}, {1, 0}, {0, 0}, {1, 1}};
        int[] wants = {0, 1, 2, 3, 3, 1, 2};
        for (int i = 0; i < kept.length; i++) {
            FieldSorter x = new FieldSorter();
            for (int k : kept[i]) {
                due("image(" + k + ")", x.image(k), 1);
            }
            due("count(7), case " + i, x.count(7), wants[i]);
            sentence("STATE: nothing was kept in it");
            due("restore(0), case " + i, x.restore(0), (wants[i] & 1) != 0 ? 1 : STATE);
            due("restore(1), case " + i, x.restore(1), (wants[i] & 2) != 0 ? 1 : STATE);
            due("count(7) after it, case " + i, x.count(7), wants[i]);
            sentence("7 which IMAGES are kept (1 the first, 2 the second, added)");
        }
        sentence("STATE: nothing was kept in it, in another object either");
        FieldSorter x = new FieldSorter();
        x.image(0);
        due("another object", new FieldSorter().restore(0), STATE);
    }

    private static void dueKept(FieldSorter x, String when, int rules, int bin, int deep) {
        due(when + ": RULES", x.count(0), rules);
        due(when + ": BIN", x.count(3), bin);
        due(when + ": DEEP", x.count(4), deep);
    }

    private static void placeOfWhatWasKept() {
        sentence("RULES, BIN, DEEP are kept in an IMAGE (0, 1), in place of what was kept there");
        for (int k = 0; k <= 1; k++) {
            FieldSorter x = new FieldSorter();
            for (int r = 0; r < MOST_RULES; r++) {
                add(x, 999 - r, r % 10, r, 20 + r, r, 30 + r, r, 40 + r, r % 4, 3);
            }
            x.grow(0, 4);
            x.grow(1, 8);
            due("16 RULES", x.image(k), 1);
            x.drop(15);
            x.grow(0, 1);
            x.grow(1, 1);
            due("15 RULES", x.image(1 - k), 1);
            x.drop(0);
            due("16 RULES again", x.restore(k), 1);
            dueKept(x, "of 16", 16, 4, 8);
            due("a 17th", x.rule(0, 0), FULL);
            for (int r = 0; r < MOST_RULES; r++) {
                int[] wants = {r, 20 + r, r, 30 + r, r, 40 + r, r % 4, 3};
                due("RANK " + r, x.told(r, 0), 999 - r);
                due("ACTION " + r, x.told(r, 1), r % 10);
                due("AHEAD of " + r, x.told(r, 2), 15 - r);
                for (int i = 0; i < 8; i++) {
                    due("told(" + r + ", " + (10 + i) + ")", x.told(r, 10 + i), wants[i]);
                }
            }
            due("15 RULES again", x.restore(1 - k), 1);
            dueKept(x, "of 15", 15, 1, 1);
            due("no number 15", x.told(15, 0), UNKNOWN);
            due("a 16th may come", x.rule(0, 0), 15);
            due("in place of 16", x.image(k), 1);
            due("then of 15", x.restore(1 - k), 1);
            due("the new one", x.restore(k), 1);
            dueKept(x, "in place", 16, 1, 1);
            due("its last RULE", x.told(15, 0), 0);
        }
    }

    private static void imageStays() {
        sentence("They are as they were when they were kept; the IMAGE stays");
        FieldSorter x = new FieldSorter();
        addIn(x, 0, 5, 9, 7, 3);
        addIn(x, 0, 5, 9, 6, 4);
        x.image(0);
        for (int i = 0; i < 3; i++) {
            x.rank(0, 1);
            due("changed", x.first(5, 0, 0, 0), 0);
            x.drop(1);
            addIn(x, 0, 0, 63, 0, 9);
            x.rule(0, 9);
            x.grow(0, 1 + i);
            x.grow(1, 8 - i);
            due("restore(0), time " + i, x.restore(0), 1);
            dueKept(x, "time " + i, 2, 2, 6);
            due("RANK", x.told(0, 0), 7);
            due("ACTION", x.told(1, 1), 4);
            due("RANGE", x.told(1, 11), 9);
            due("first", x.first(5, 0, 0, 0), 1);
            due("first", x.first(4, 0, 0, 0), NONE);
            due("wins", x.wins(1), 5 * 16384);
            due("packets", x.packets(9), 0);
            due("covered", x.covered(0), 1);
            // 5 to 9 is split into 5, 6 to 7, 8 to 9: LENGTHS 6 and 5.
            due("TUPLES", x.count(1), 2);
            due("ENTRIES", x.count(2), 6);
            due("count(6)", x.count(6), 1);
        }
        sentence("restored at once: nothing is changed");
        x.image(1);
        due("restore(1)", x.restore(1), 1);
        dueKept(x, "at once", 2, 2, 6);
        due("first", x.first(5, 0, 0, 0), 1);
        sentence("the IMAGE stays, when it is restored and the other one is kept");
        x.drop(0);
        x.image(1);
        x.restore(0);
        due("of 0", x.count(0), 2);
        x.restore(1);
        due("of 1", x.count(0), 1);
    }

    private static void draftIsNotKept() {
        sentence("20 image, 21 restore: RULES, BIN, DEEP; THE DRAFT is none of these");
        FieldSorter x = new FieldSorter();
        x.draft(1, 5, 6);
        x.image(0);
        x.draft(1, 7, 8);
        x.draft(3, 1, 1);
        due("restore(0)", x.restore(0), 1);
        due("rule", x.rule(0, 0), 0);
        int[] wants = {0, 63, 7, 8, 0, 63, 1, 1};
        for (int i = 0; i < 8; i++) {
            due("told(0, " + (10 + i) + ")", x.told(0, 10 + i), wants[i]);
        }
        due("restore(0)", x.restore(0), 1);
        due("rule", x.rule(0, 0), 0);
        due("THE DRAFT had become a RULE", x.told(0, 12) + x.told(0, 13), 63);
    }

    /** Whatever changes RULES must be seen by calls that were asked before, too. */
    private static void askedBefore() {
        sentence("answers are those of the RULES there are, asked before or not");
        FieldSorter x = new FieldSorter();
        x.image(0);
        addIn(x, 0, 0, 31, 5, 1);
        dueWhole(x, "one RULE", ALL / 2, 0, 1, 1, 1);
        x.rule(6, 1);
        dueWhole(x, "one more", ALL / 2, 1, 2, 2, 2);
        x.rank(1, 4);
        dueWhole(x, "another RANK", 0, 1, 2, 2, 2);
        x.image(1);
        x.drop(1);
        dueWhole(x, "one gone", ALL / 2, 0, 1, 1, 1);
        x.restore(1);
        dueWhole(x, "restored", 0, 1, 2, 2, 2);
        x.restore(0);
        due("none: packets(1)", x.packets(1), 0);
        due("none: count(1)", x.count(1), 0);
        x.rule(0, 1);
        dueWhole(x, "all numbers", ALL, 0, 1, 1, 1);
    }

    private static void dueWhole(FieldSorter x, String when, int wins, int idle, int tuples, int entries, int leafRules) {
        due(when + ": wins(0)", x.wins(0), wins);
        due(when + ": idle(0)", x.idle(0), idle);
        due(when + ": count(1)", x.count(1), tuples);
        due(when + ": count(2)", x.count(2), entries);
        due(when + ": tree(3)", x.tree(3), leafRules);
    }

    private static void calls() {
        sentence("An object is used for at most 512 calls after it has been made");
        FieldSorter x = new FieldSorter();
        int made = 0;
        for (int r = 0; r < MOST_RULES; r++) {
            x.draft(0, 4 * r, 4 * r + 3);
            x.rule(r, r % 10);
            made += 2;
        }
        // Each round asks anew after a change, and ends as it began; 15 RULES are halved to 8 LEAVES of two and one.
        while (made + 8 <= CALLS - 2) {
            x.image(1);
            x.rank(3, 999);
            due("at call " + made, x.told(3, 2), 15);
            x.drop(7);
            due("at call " + made, x.wins(7), ALL / 16);
            due("at call " + made, x.count(1), 1);
            due("at call " + made, x.tree(1), 8);
            x.restore(1);
            made += 8;
        }
        while (made < CALLS - 1) {
            due("at call " + made, x.first(63, 63, 63, 3), 15);
            made++;
        }
        due("the 512th call", x.count(0), 16);
        sentence("LANGUAGE.md: no call may ever throw, later ones neither");
        int later = 0;
        for (int i = 0; i < 5000; i++) {
            x.rule(i % 1000, i % 10);
            x.wins(i % 16);
            x.tuple(i % 9, i % 7);
            x.tree(i % 6);
            x.image(i % 2);
            x.drop(i % 17);
            later++;
        }
        due("later calls", later, 5000);
    }

    /** The counts at their ends: nothing, and as much as there may be. */
    private static void counts() {
        sentence("22 count: of 16 RULES that are alike");
        FieldSorter x = new FieldSorter();
        for (int r = 0; r < MOST_RULES; r++) {
            x.rule(0, 9);
        }
        x.grow(0, 4);
        x.grow(1, 8);
        x.image(0);
        x.image(1);
        int[] wants = {16, 1, 16, 4, 8, 16, 15, 3};
        for (int what = 0; what <= 7; what++) {
            due("count(" + what + ")", x.count(what), wants[what]);
        }
        sentence("22 count: of 16 RULES that are apart");
        FieldSorter y = withRules(MOST_RULES);
        y.grow(0, 1);
        y.grow(1, 1);
        int[] apart = {16, 1, 16, 1, 1, 0, 0, 0};
        for (int what = 0; what <= 7; what++) {
            due("count(" + what + ")", y.count(what), apart[what]);
        }
        sentence("22 count: 6 how many are COVERED, 5 how many RULES are IDLE, after a RULE has gone");
        FieldSorter z = new FieldSorter();
        for (int r = 0; r < MOST_RULES; r++) {
            addIn(z, 0, 0, 48 - 3 * r, r, 1);
        }
        due("COVERED", z.count(6), 15);
        due("IDLE: all but the first", z.count(5), 15);
        z.drop(0);
        due("COVERED", z.count(6), 14);
        due("IDLE", z.count(5), 14);
    }

    public static void main(String[] args) {
        noRule();
        whichAreKept();
        placeOfWhatWasKept();
        imageStays();
        draftIsNotKept();
        askedBefore();
        calls();
        counts();
        end();
    }
}
