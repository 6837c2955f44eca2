/** Part 3 of the document, the tree: its boundary cases, a sentence at a time. */
public final class TreeEdgesTest extends Check {
    private static void topNode() {
        sentence("The top NODE has all numbers, and is 0 deep");
        FieldSorter x = new FieldSorter();
        dueTree(x, "no RULE: one LEAF, and it has none", 1, 1, 0, 0, 0, 1);
        x.rule(0, 0);
        dueTree(x, "one RULE: one LEAF", 1, 1, 0, 1, 1, 0);
        x.drop(0);
        dueTree(x, "no RULE again", 1, 1, 0, 0, 0, 1);
    }

    /** RULES at the ends of a FIELD in turn: each cut parts them. */
    private static FieldSorter atEnds(int n, int field) {
        FieldSorter x = new FieldSorter();
        for (int r = 0; r < n; r++) {
            int at = r % 2 == 0 ? 0 : TOP[field];
            addIn(x, field, at, at, r, 0);
        }
        return x;
    }

    private static void noMoreThanBin() {
        for (int bin = 1; bin <= 4; bin++) {
            for (int f = 0; f < 4; f++) {
                sentence("A NODE is a LEAF, if it has no more RULES than BIN (" + bin + ")");
                FieldSorter x = atEnds(bin - 1, f);
                x.grow(0, bin);
                dueTree(x, "one less than BIN", 1, 1, 0, bin - 1, bin - 1, bin == 1 ? 1 : 0);
                x = atEnds(bin, f);
                x.grow(0, bin);
                dueTree(x, "as many as BIN", 1, 1, 0, bin, bin, 0);
                due("the LEAF is the top NODE", x.walk(0, 0, 0, 0, 0), 0);
                x = atEnds(bin + 1, f);
                x.grow(0, bin);
                dueTree(x, "one more than BIN", 3, 2, 1, bin + 1, bin / 2 + 1, 0);
                due("FIELD " + f + " is cut", x.walk(0, 0, 0, 0, 10 + f), 1);
            }
        }
        sentence("BIN (1 to 4; 2 at first)");
        due("two RULES", atEnds(2, 0).tree(0), 1);
        due("three RULES", atEnds(3, 0).tree(0), 3);
    }

    /** Each cut parts one RULE from the others: six times in FIELD 0, then six times in FIELD 1. */
    private static FieldSorter chain() {
        FieldSorter x = new FieldSorter();
        x.grow(0, 1);
        for (int bit = 5; bit >= 0; bit--) {
            addIn(x, 0, 1 << bit, 1 << bit, 0, 0);
        }
        for (int bit = 5; bit >= 0; bit--) {
            add(x, 0, 0, 0, 0, 1 << bit, 1 << bit);
        }
        add(x, 0, 0, 0, 0, 0, 0);
        return x;
    }

    private static void noDeeperThanDeep() {
        for (int deep = 1; deep <= 8; deep++) {
            sentence("A NODE is a LEAF, if it .. is DEEP deep (" + deep + ")");
            FieldSorter x = chain();
            x.grow(1, deep);
            dueTree(x, "chain", 2 * deep + 1, deep + 1, deep, 13, 13 - deep, 0);
            due("the LEAF at the end is DEEP deep", x.walk(0, 0, 0, 0, 0), deep);
            due("and has more RULES than BIN", x.walk(0, 0, 0, 0, 1), 13 - deep);
            due("all are looked at for the last", x.walk(0, 0, 0, 0, 2), 13 - deep);
            due("FIELD 0 is cut in 6 at most", x.walk(0, 0, 0, 0, 10), Math.min(6, deep));
            due("FIELD 1 is cut in the rest", x.walk(0, 0, 0, 0, 11), Math.max(0, deep - 6));
            due("FIELD 2 is not cut", x.walk(0, 0, 0, 0, 12), 0);
            due("FIELD 3 is not cut", x.walk(0, 0, 0, 0, 13), 0);
            due("a LEAF aside: how deep", x.walk(32, 0, 0, 0, 0), 1);
            due("a LEAF aside: RULES", x.walk(63, 63, 63, 3, 1), 1);
            due("a LEAF aside: none FITS, all are looked at", x.walk(63, 63, 63, 3, 2), 1);
        }
        sentence("DEEP (1 to 8; 6 at first)");
        due("as DEEP is at first", chain().tree(2), 6);
    }

    private static void oneNumberIsNotCut() {
        sentence("A FIELD can be cut, if the RANGE has more than one number");
        for (int f = 0; f < 4; f++) {
            FieldSorter x = new FieldSorter();
            x.grow(0, 1);
            x.grow(1, 8);
            for (int bit = BITS[f] - 1; bit >= 0; bit--) {
                addIn(x, f, 1 << bit, 1 << bit, 0, 0);
            }
            addIn(x, f, 0, 0, 0, 0);
            addIn(x, f, 0, 0, 0, 0);
            int bits = BITS[f];
            dueTree(x, "FIELD " + f, 2 * bits + 1, bits + 1, bits, bits + 2, 2, 0);
            due("cut down to one number", x.walk(0, 0, 0, 0, 10 + f), bits);
            due("how deep", x.walk(0, 0, 0, 0, 0), bits);
            due("two RULES are left, with BIN 1", x.walk(0, 0, 0, 0, 1), 2);
            int[] beside = packet(f, 1);
            due("beside it, the last cut's upper half", walk(x, beside, 0), bits);
            due("beside it, one RULE", walk(x, beside, 1), 1);
        }
    }

    private static void lastTwoNumbersAreCut() {
        sentence("A FIELD can be cut, if the RANGE has more than one number: two of them, at the upper end");
        for (int f = 0; f < 4; f++) {
            FieldSorter x = new FieldSorter();
            x.grow(0, 1);
            x.grow(1, 8);
            for (int bit = BITS[f] - 1; bit >= 0; bit--) {
                addIn(x, f, TOP[f] - (1 << bit), TOP[f] - (1 << bit), 0, 0);
            }
            addIn(x, f, TOP[f], TOP[f], 0, 0);
            addIn(x, f, TOP[f], TOP[f], 0, 0);
            int bits = BITS[f];
            dueTree(x, "FIELD " + f, 2 * bits + 1, bits + 1, bits, bits + 2, 2, 0);
            due("cut down to one number", walk(x, packet(f, TOP[f]), 10 + f), bits);
            due("two RULES are left, with BIN 1", walk(x, packet(f, TOP[f]), 1), 2);
            due("beside it, one RULE", walk(x, packet(f, TOP[f] - 1), 1), 1);
        }
    }

    private static void bothNodesBelow() {
        sentence("and has two NODES, one deeper, below it: each is cut by its own RANGES");
        for (int f = 0; f < 4; f++) {
            for (int g = f + 1; g < 4; g++) {
                FieldSorter x = new FieldSorter();
                x.grow(0, 1);
                for (int r = 0; r < 4; r++) {
                    addQuarter(x, f, r / 2 == 1, g, r % 2 == 1);
                }
                dueTree(x, "quarters of FIELDS " + f + " and " + g, 7, 4, 2, 4, 1, 0);
                addQuarter(x, f, true, g, false);
                dueTree(x, "and one quarter twice", 7, 4, 2, 5, 2, 0);
                int[] upper = packet(f, TOP[f]);
                due("the upper half, cuts of FIELD " + f, walk(x, upper, 10 + f), 1);
                due("the upper half, cuts of FIELD " + g, walk(x, upper, 10 + g), 1);
            }
        }
        FieldSorter y = new FieldSorter();
        y.grow(0, 1);
        // FIELD 0 is cut at the top, its lower half in FIELD 1, its upper half twice in FIELD 2.
        addQuarter(y, 0, false, 1, false);
        addQuarter(y, 0, false, 1, true);
        add(y, 0, 0, 32, 63, 0, 63, 0, 15);
        add(y, 0, 0, 32, 63, 0, 63, 16, 31);
        addQuarter(y, 0, true, 2, true);
        dueTree(y, "halves cut in other FIELDS", 9, 5, 3, 5, 1, 0);
        int[][] wants = {{0, 0, 0, 2, 1, 1, 0}, {0, 63, 63, 2, 1, 1, 0}, {32, 0, 0, 3, 1, 0, 2}, {63, 63, 16, 3, 1, 0, 2},
            {63, 63, 32, 2, 1, 0, 1}};
        int[] whats = {0, 10, 11, 12};
        for (int[] w : wants) {
            for (int i = 0; i < whats.length; i++) {
                due("walk(" + w[0] + ", " + w[1] + ", " + w[2] + ", 0, " + whats[i] + ")",
                    y.walk(w[0], w[1], w[2], 0, whats[i]), w[3 + i]);
            }
        }
    }

    private static void askedBefore() {
        sentence("the tree is that of RULES, BIN and DEEP as they are, asked before or not");
        FieldSorter x = chain();
        due("deep", x.walk(0, 0, 0, 0, 0), 6);
        due("cuts", x.walk(0, 0, 0, 0, 10), 6);
        x.grow(1, 1);
        due("DEEP 1: deep", x.walk(0, 0, 0, 0, 0), 1);
        due("DEEP 1: cuts", x.walk(0, 0, 0, 0, 10), 1);
        for (int left = 12; left >= 1; left--) {
            x.drop(0);
        }
        due("one RULE: deep", x.walk(0, 0, 0, 0, 0), 0);
        due("one RULE: cuts", x.walk(0, 0, 0, 0, 10), 0);
        dueTree(x, "one RULE", 1, 1, 0, 1, 1, 0);
    }

    private static void halves() {
        sentence("into a lower and an upper half (they have as many numbers)");
        for (int f = 0; f < 4; f++) {
            int middle = TOP[f] / 2;
            FieldSorter x = new FieldSorter();
            addIn(x, f, 0, middle, 0, 0);
            addIn(x, f, middle + 1, TOP[f], 1, 0);
            addIn(x, f, middle + 1, TOP[f], 2, 0);
            dueTree(x, "FIELD " + f, 3, 2, 1, 3, 2, 0);
            due("the last number of the lower half", walk(x, packet(f, middle), 1), 1);
            due("the first number of the upper half", walk(x, packet(f, middle + 1), 1), 2);
            due("the least", walk(x, packet(f, 0), 1), 1);
            due("the greatest", walk(x, packet(f, TOP[f]), 1), 2);
            sentence("its RULES are those that FIT any PACKET within these");
            addIn(x, f, middle, middle + 1, 3, 0);
            dueTree(x, "one RULE in both halves", 3, 2, 1, 5, 3, 0);
            due("the lower half", walk(x, packet(f, 0), 1), 2);
            due("the upper half", walk(x, packet(f, TOP[f]), 1), 3);
            sentence("into a lower and an upper half (they have as many numbers)");
        }
    }

    private static void parting() {
        sentence("It parts a NODE, if the half with more RULES has fewer than the NODE");
        for (int f = 0; f < 4; f++) {
            int middle = TOP[f] / 2;
            FieldSorter x = new FieldSorter();
            addIn(x, f, 0, middle + 1, 0, 0);
            addIn(x, f, middle + 1, TOP[f], 1, 0);
            addIn(x, f, middle + 1, TOP[f], 2, 0);
            dueTree(x, "the upper half has as many", 1, 1, 0, 3, 3, 0);
            due("no FIELD is cut", x.walk(0, 0, 0, 0, 10 + f), 0);
            FieldSorter y = new FieldSorter();
            addIn(y, f, 0, middle, 0, 0);
            addIn(y, f, 0, middle, 1, 0);
            addIn(y, f, middle, TOP[f], 2, 0);
            dueTree(y, "the lower half has as many", 1, 1, 0, 3, 3, 0);
            addIn(y, f, middle + 1, middle + 1, 3, 0);
            dueTree(y, "one fewer: 3 of 4", 3, 2, 1, 5, 3, 0);
        }
        sentence("A NODE is a LEAF, if .. no FIELD parts it");
        FieldSorter z = new FieldSorter();
        for (int r = 0; r < MOST_RULES; r++) {
            z.rule(0, 0);
        }
        dueTree(z, "16 RULES of all numbers", 1, 1, 0, 16, 16, 0);
        due("how deep", z.walk(63, 63, 63, 3, 0), 0);
        due("RULES", z.walk(63, 63, 63, 3, 1), 16);
        due("looked at", z.walk(63, 63, 63, 3, 2), 1);
    }

    private static void whichFieldMore() {
        sentence("cut in that FIELD that parts it for which the half with more RULES has fewest");
        for (int f = 0; f < 4; f++) {
            for (int g = 0; g < 4; g++) {
                if (f == g) {
                    continue;
                }
                FieldSorter x = new FieldSorter();
                // FIELD f leaves three and one, FIELD g two and two.
                addQuarter(x, f, false, g, false);
                addQuarter(x, f, false, g, false);
                addQuarter(x, f, false, g, true);
                addQuarter(x, f, true, g, true);
                due("three and one in FIELD " + f, x.walk(0, 0, 0, 0, 10 + f), 0);
                due("two and two in FIELD " + g, x.walk(0, 0, 0, 0, 10 + g), 1);
                dueTree(x, "two and two", 3, 2, 1, 4, 2, 0);
            }
        }
    }

    private static void addQuarter(FieldSorter x, int f, boolean upperF, int g, boolean upperG) {
        draftHalf(x, f, upperF);
        draftHalf(x, g, upperG);
        x.rule(0, 0);
    }

    private static void draftHalf(FieldSorter x, int f, boolean upper) {
        int middle = TOP[f] / 2;
        x.draft(f, upper ? middle + 1 : 0, upper ? TOP[f] : middle);
    }

    private static void whichFieldBoth() {
        sentence("of as few that for which both halves together have fewest");
        for (int f = 0; f < 4; f++) {
            for (int g = 0; g < 4; g++) {
                if (f == g) {
                    continue;
                }
                FieldSorter x = new FieldSorter();
                // FIELD f leaves two and two, for one RULE takes all of it; FIELD g two and one.
                draftHalf(x, g, false);
                x.rule(0, 0);
                addQuarter(x, f, false, g, false);
                addQuarter(x, f, true, g, true);
                due("four in both halves of FIELD " + f, x.walk(0, 0, 0, 0, 10 + f), 0);
                due("three in both halves of FIELD " + g, x.walk(0, 0, 0, 0, 10 + g), 1);
                dueTree(x, "two and one", 3, 2, 1, 3, 2, 0);
            }
        }
        sentence("the half with more RULES goes before both together");
        for (int f = 0; f < 4; f++) {
            for (int g = 0; g < 4; g++) {
                if (f != g) {
                    dueMoreBeforeBoth(f, g);
                }
            }
        }
    }

    /** FIELD f leaves four and one (five in both), FIELD g three and three (six), for one RULE takes all of it. */
    private static void dueMoreBeforeBoth(int f, int g) {
        FieldSorter x = new FieldSorter();
        x.grow(0, 3);
        draftHalf(x, f, false);
        x.rule(0, 0);
        addQuarter(x, f, false, g, false);
        addQuarter(x, f, false, g, false);
        addQuarter(x, f, false, g, true);
        addQuarter(x, f, true, g, true);
        due("four and one in FIELD " + f, x.walk(0, 0, 0, 0, 10 + f), 0);
        due("three and three in FIELD " + g, x.walk(0, 0, 0, 0, 10 + g), 1);
        dueTree(x, "three and three", 3, 2, 1, 6, 3, 0);
    }

    private static void whichFieldLeast() {
        sentence("of as few the least FIELD");
        for (int f = 0; f < 4; f++) {
            for (int g = f + 1; g < 4; g++) {
                FieldSorter x = new FieldSorter();
                addQuarter(x, f, false, g, false);
                addQuarter(x, f, false, g, true);
                addQuarter(x, f, true, g, false);
                due("FIELD " + f + " and not " + g, x.walk(0, 0, 0, 0, 10 + f), 1);
                due("FIELD " + g + " and not " + f, x.walk(0, 0, 0, 0, 10 + g), 0);
                due("RULES in the LEAF", x.walk(0, 0, 0, 0, 1), 2);
            }
        }
        FieldSorter x = new FieldSorter();
        for (int r = 0; r < 4; r++) {
            for (int f = 0; f < 4; f++) {
                draftHalf(x, f, r % 2 == 1);
            }
            x.rule(0, 0);
        }
        for (int f = 0; f < 4; f++) {
            due("all alike: FIELD " + f, x.walk(0, 0, 0, 0, 10 + f), f == 0 ? 1 : 0);
        }
    }

    /** 16 RULES of one PACKET each, apart in every FIELD: a whole tree of four levels. */
    private static void wholeTree() {
        sentence("18 tree: a tree whose every NODE is cut");
        FieldSorter x = new FieldSorter();
        x.grow(0, 1);
        for (int r = 0; r < MOST_RULES; r++) {
            add(x, 99 - r, 0, 4 * r, 4 * r + 3);
        }
        dueTree(x, "sixteenths of FIELD 0", 31, 16, 4, 16, 1, 0);
        for (int r = 0; r < MOST_RULES; r++) {
            due("LEAF of " + 4 * r, x.walk(4 * r, 9, 9, 1, 0), 4);
            due("LEAF of " + (4 * r + 3), x.walk(4 * r + 3, 9, 9, 1, 10), 4);
        }
        int[] bins = {1, 2, 3, 4};
        int[][] wants = {{31, 16, 4, 16, 1, 0}, {15, 8, 3, 16, 2, 0}, {15, 8, 3, 16, 2, 0}, {7, 4, 2, 16, 4, 0}};
        for (int i = 0; i < bins.length; i++) {
            x.grow(0, bins[i]);
            dueTree(x, "BIN " + bins[i], wants[i]);
        }
        x.grow(0, 1);
        int[][] deeps = {{3, 2, 1, 16, 8, 0}, {7, 4, 2, 16, 4, 0}, {15, 8, 3, 16, 2, 0}, {31, 16, 4, 16, 1, 0}};
        for (int deep = 1; deep <= 8; deep++) {
            x.grow(1, deep);
            dueTree(x, "DEEP " + deep, deeps[Math.min(deep, 4) - 1]);
        }
        sentence("18 tree: a NODE's depth is its own, not the deepest's");
        FieldSorter y = chain();
        y.grow(1, 8);
        due("32: one cut", y.walk(32, 0, 0, 0, 0), 1);
        due("16: two cuts", y.walk(16, 0, 0, 0, 0), 2);
        due("1: six cuts", y.walk(1, 0, 0, 0, 0), 6);
        due("0, 32: seven cuts", y.walk(0, 32, 0, 0, 0), 7);
        due("0, 32: FIELD 1 in one of them", y.walk(0, 32, 0, 0, 11), 1);
        due("0, 31: eight cuts", y.walk(0, 31, 0, 0, 0), 8);
    }

    private static void lookedAt() {
        sentence("how many of these, in ORDER, must be looked at till one FITS, all if none does");
        due("no RULE", new FieldSorter().walk(0, 0, 0, 0, 2), 0);
        FieldSorter x = new FieldSorter();
        for (int r = 0; r < MOST_RULES; r++) {
            addIn(x, 0, 0, 31 - r, 99 - r, 0);
        }
        due("one LEAF", x.tree(0), 1);
        due("the first in ORDER FITS", x.walk(16, 0, 0, 0, 2), 1);
        for (int a = 17; a <= 31; a++) {
            due("at " + a, x.walk(a, 0, 0, 0, 2), a - 15);
        }
        due("none FITS", x.walk(32, 0, 0, 0, 2), 16);
        due("the RULES there", x.walk(32, 0, 0, 0, 1), 16);
        sentence("in ORDER, of those of the LEAF alone");
        FieldSorter y = new FieldSorter();
        // FIELD 0 leaves two and three: RULES 0, 1 below, RULES 2, 3, 4 above.
        addIn(y, 0, 0, 9, 1, 0);
        addIn(y, 0, 0, 31, 2, 0);
        addIn(y, 0, 32, 40, 0, 0);
        addIn(y, 0, 32, 50, 3, 0);
        addIn(y, 0, 32, 60, 3, 0);
        dueTree(y, "two and three, that no FIELD parts", 3, 2, 1, 5, 3, 0);
        int[] at = {0, 9, 10, 31, 32, 40, 41, 50, 51, 60, 61, 63};
        int[] looked = {1, 1, 2, 2, 1, 1, 2, 2, 3, 3, 3, 3};
        for (int i = 0; i < at.length; i++) {
            due("at " + at[i], y.walk(at[i], 5, 5, 3, 2), looked[i]);
        }
        y.rank(4, 2);
        due("another ORDER: 51", y.walk(51, 5, 5, 3, 2), 2);
        due("another ORDER: 41", y.walk(41, 5, 5, 3, 2), 2);
        due("another ORDER: 40", y.walk(40, 5, 5, 3, 2), 1);
    }

    public static void main(String[] args) {
        topNode();
        noMoreThanBin();
        noDeeperThanDeep();
        oneNumberIsNotCut();
        lastTwoNumbersAreCut();
        bothNodesBelow();
        askedBefore();
        halves();
        parting();
        whichFieldMore();
        whichFieldBoth();
        whichFieldLeast();
        wholeTree();
        lookedAt();
        end();
    }
}
