/** Part 1 of the document, rules: its boundary cases, a sentence at a time. */
public final class RuleEdgesTest extends Check {
    private static void upToSixteen() {
        sentence("There are up to 16 RULES, numbered from 0 on");
        FieldSorter x = new FieldSorter();
        for (int r = 0; r < MOST_RULES; r++) {
            due("there are", x.count(0), r);
            due("rule " + r, x.rule(r, 0), r);
        }
        due("there are", x.count(0), 16);
        due("a 17th", x.rule(0, 0), FULL);
        due("there are still", x.count(0), 16);
        due("no number 16", x.told(16, 0), UNKNOWN);
        due("number 15", x.told(15, 0), 15);
        sentence("3 rule: FULL, no more when one has gone");
        for (int i = 0; i < MOST_RULES; i++) {
            due("drop(" + i + ")", x.drop(i), 15);
            due("one more", x.rule(500 + i, 0), 15);
            due("a 17th", x.rule(0, 0), FULL);
        }
    }

    private static void numbersAfterDrop() {
        sentence("when one goes, those behind it are one less");
        for (int gone = 0; gone < MOST_RULES; gone++) {
            FieldSorter x = new FieldSorter();
            for (int r = 0; r < MOST_RULES; r++) {
                add(x, 999 - r, r % 10, r, r + 1, r + 2, r + 3, r + 4, r + 5, r % 4, r % 4);
            }
            due("drop(" + gone + ")", x.drop(gone), 15);
            for (int r = 0; r < 15; r++) {
                int was = r < gone ? r : r + 1;
                int[] wants = {was, was + 1, was + 2, was + 3, was + 4, was + 5, was % 4, was % 4};
                due("rank of " + r, x.told(r, 0), 999 - was);
                due("action of " + r, x.told(r, 1), was % 10);
                due("ahead of " + r, x.told(r, 2), 14 - r);
                for (int i = 0; i < wants.length; i++) {
                    due("told(" + r + ", " + (10 + i) + ")", x.told(r, 10 + i), wants[i]);
                }
            }
            due("no number 15", x.told(15, 0), UNKNOWN);
        }
        sentence("4 drop: how many there are, down to none");
        FieldSorter x = withRules(MOST_RULES);
        for (int left = 15; left >= 0; left--) {
            due("drop(" + left / 2 + ")", x.drop(left / 2), left);
            due("count(0)", x.count(0), left);
        }
        due("none is left", x.drop(0), UNKNOWN);
        due("numbers from 0 on again", x.rule(0, 0), 0);
    }

    private static void orderOfOneRank() {
        sentence("ORDER of RULES: by rising RANKS, of one RANK by rising numbers");
        FieldSorter x = new FieldSorter();
        for (int r = 0; r < MOST_RULES; r++) {
            add(x, 500, r % 10);
        }
        for (int r = 0; r < MOST_RULES; r++) {
            due("one RANK: ahead of " + r, x.told(r, 2), r);
        }
        due("first", x.first(0, 0, 0, 0), 0);
        due("a RANK one more: behind all", x.rank(0, 501), 15);
        due("first", x.first(0, 0, 0, 0), 1);
        due("a RANK one less: ahead of all", x.rank(15, 499), 0);
        due("first", x.first(0, 0, 0, 0), 15);
        due("back to the same RANK: by its number", x.rank(15, 500), 14);
        due("back to the same RANK: by its number", x.rank(0, 500), 0);
        due("first", x.first(0, 0, 0, 0), 0);
        sentence("5 rank: (or the same)");
        for (int r = 0; r < MOST_RULES; r++) {
            due("rank(" + r + ", 500)", x.rank(r, 500), r);
        }
        sentence("a RANK, 0 to 999");
        due("the least", x.rank(7, 0), 0);
        due("the greatest", x.rank(8, 999), 15);
        due("the least and a lower number", x.rank(6, 0), 0);
        due("the least and a higher number", x.rank(9, 0), 2);
        due("the greatest and a lower number", x.rank(0, 999), 14);
        due("the greatest and a higher number", x.rank(15, 999), 15);
        sentence("of one RANK by rising numbers, also when numbers are one less");
        x = new FieldSorter();
        addIn(x, 0, 0, 0, 7, 0);
        addIn(x, 0, 0, 5, 7, 1);
        addIn(x, 0, 0, 9, 7, 2);
        x.drop(0);
        due("first", x.first(0, 0, 0, 0), 0);
        due("its action", x.told(0, 1), 1);
        due("first of 6", x.first(6, 0, 0, 0), 1);
    }

    private static void fitsAllFour() {
        sentence("A RULE FITS a PACKET, if all four numbers are in its RANGES");
        int[] ranges = {10, 20, 30, 40, 50, 60, 1, 2};
        FieldSorter x = new FieldSorter();
        add(x, 0, 0, ranges);
        for (int f = 0; f < 4; f++) {
            for (int number = 0; number <= TOP[f]; number++) {
                int[] p = {10, 40, 55, 1};
                p[f] = number;
                boolean in = ranges[2 * f] <= number && number <= ranges[2 * f + 1];
                due("FIELD " + f + " is " + number, first(x, p), in ? 0 : NONE);
            }
        }
        sentence("Each has a RANGE in each FIELD (from a least to a greatest number), a single one, too");
        for (int f = 0; f < 4; f++) {
            for (int number : new int[] {0, TOP[f]}) {
                x = new FieldSorter();
                addIn(x, f, number, number, 0, 0);
                for (int at = 0; at <= TOP[f]; at++) {
                    due("FIELD " + f + " is " + at, first(x, packet(f, at)), at == number ? 0 : NONE);
                }
            }
        }
    }

    private static void draftAtFirst() {
        sentence("THE DRAFT has a RANGE in each FIELD, all numbers at first");
        FieldSorter x = new FieldSorter();
        x.rule(0, 0);
        dueRanges(x, 0, 0, 63, 0, 63, 0, 63, 0, 3);
        due("it fits all", x.wins(0), ALL);
        sentence("3 rule: THE DRAFT becomes a RULE more (and is all numbers then)");
        for (int f = 0; f < 4; f++) {
            int[] ranges = {0, 63, 0, 63, 0, 63, 0, 3};
            x = new FieldSorter();
            x.draft(f, 1, 2);
            x.rule(0, 0);
            x.rule(0, 0);
            dueRanges(x, 1, ranges);
            ranges[2 * f] = 1;
            ranges[2 * f + 1] = 2;
            dueRanges(x, 0, ranges);
        }
        sentence("2 draft: THE DRAFT has another RANGE in a FIELD, the last one counts, the others stay");
        x = new FieldSorter();
        x.draft(0, 5, 6);
        x.draft(1, 7, 8);
        x.draft(0, 0, 63);
        x.draft(3, 3, 3);
        x.rule(0, 0);
        dueRanges(x, 0, 0, 63, 7, 8, 0, 63, 3, 3);
        sentence("a RULE keeps its RANGES when THE DRAFT has others");
        x.draft(0, 9, 9);
        x.draft(1, 9, 9);
        dueRanges(x, 0, 0, 63, 7, 8, 0, 63, 3, 3);
    }

    private static void dueRanges(FieldSorter x, int rule, int... ranges) {
        for (int i = 0; i < ranges.length; i++) {
            due("told(" + rule + ", " + (10 + i) + ")", x.told(rule, 10 + i), ranges[i]);
        }
    }

    private static void winsFromNoneToAll() {
        sentence("8 wins: Of how many PACKETS a RULE is the FIRST: none, one, all, all but one");
        int[][] corners = {{0, 0, 0, 0}, {63, 63, 63, 3}, {63, 0, 63, 0}, {0, 63, 0, 3}};
        for (int[] c : corners) {
            FieldSorter x = new FieldSorter();
            add(x, 1, 0, c[0], c[0], c[1], c[1], c[2], c[2], c[3], c[3]);
            due("one PACKET", x.wins(0), 1);
            due("packets without a FIRST", x.packets(-1), ALL - 1);
            add(x, 1, 1);
            due("all but one", x.wins(1), ALL - 1);
            due("packets without a FIRST", x.packets(-1), 0);
            x.rank(1, 0);
            due("all", x.wins(1), ALL);
            due("none", x.wins(0), 0);
        }
        sentence("8 wins: none, though no single RULE covers it");
        FieldSorter x = new FieldSorter();
        addIn(x, 2, 0, 31, 0, 0);
        addIn(x, 2, 32, 63, 0, 0);
        addIn(x, 2, 31, 32, 1, 1);
        due("wins(2)", x.wins(2), 0);
        due("covered(2)", x.covered(2), NONE);
        sentence("8 wins: of 16 RULES that differ in each FIELD");
        x = new FieldSorter();
        for (int r = 0; r < MOST_RULES; r++) {
            add(x, r, r % 10, 2 * r, 62 - 2 * r, 2 * r + 1, 63 - 2 * r, 2 * r, 63 - 2 * r, 0, 3);
        }
        due("the first", x.wins(0), 63 * 63 * 64 * 4);
        for (int r = 1; r < MOST_RULES; r++) {
            due("wins(" + r + ")", x.wins(r), 0);
        }
        for (int r = 0; r < MOST_RULES; r++) {
            x.rank(r, 100 - r);
        }
        for (int r = 0; r < MOST_RULES; r++) {
            due("from within, wins(" + r + ")", x.wins(r), nested(r) - nested(r + 1));
        }
        due("no FIRST", x.packets(-1), ALL - nested(0));
    }

    private static int nested(int r) {
        return Math.max(0, 63 - 4 * r) * Math.max(0, 63 - 4 * r) * (64 - 4 * r) * 4;
    }

    private static void overlapEdges() {
        sentence("9 overlap: How many PACKETS two RULES (or one) FIT, both: neighbours none, one number one");
        for (int f = 0; f < 4; f++) {
            int each = ALL / (TOP[f] + 1);
            FieldSorter x = new FieldSorter();
            addIn(x, f, 0, 1, 0, 0);
            addIn(x, f, 2, TOP[f], 0, 0);
            addIn(x, f, 1, 2, 0, 0);
            due("neighbours", x.overlap(0, 1), 0);
            due("neighbours", x.overlap(1, 0), 0);
            due("one number", x.overlap(0, 2), each);
            due("one number", x.overlap(2, 1), each);
            due("one RULE", x.overlap(0, 0), 2 * each);
            due("one RULE", x.overlap(1, 1), (TOP[f] - 1) * each);
        }
        FieldSorter x = new FieldSorter();
        add(x, 0, 0, 0, 10, 0, 10, 0, 10, 0, 2);
        add(x, 0, 0, 10, 63, 10, 63, 10, 63, 2, 3);
        x.rule(0, 0);
        due("one PACKET", x.overlap(0, 1), 1);
        due("all PACKETS", x.overlap(2, 2), ALL);
    }

    private static void coveredEdges() {
        sentence("A RULE is COVERED by another one, if that one is AHEAD and FITS all PACKETS that it FITS");
        int[] ranges = {10, 20, 30, 40, 50, 60, 1, 2};
        FieldSorter x = new FieldSorter();
        add(x, 5, 0, ranges);
        due("not by itself", x.covered(0), NONE);
        add(x, 5, 0, ranges);
        due("not by one behind", x.covered(0), NONE);
        due("by one as great", x.covered(1), 0);
        due("count(6)", x.count(6), 1);
        x.rank(1, 4);
        due("by a RANK ahead", x.covered(0), 1);
        due("no more", x.covered(1), NONE);
        for (int i = 0; i < 8; i++) {
            int[] outer = ranges.clone();
            outer[i] += i % 2 == 0 ? -1 : 1;
            FieldSorter y = new FieldSorter();
            add(y, 0, 0, outer);
            add(y, 1, 0, ranges);
            due("bound " + i + " is one wider", y.covered(1), 0);
            y.rank(0, 2);
            due("from behind", y.covered(1), NONE);
            due("bound " + i + " is one short", y.covered(0), NONE);
        }
        sentence("10 covered: The first RULE, in ORDER, by which a RULE is COVERED");
        FieldSorter z = new FieldSorter();
        for (int r = 0; r < MOST_RULES; r++) {
            z.rule(100 - r, 0);
        }
        due("the last in ORDER, by the first", z.covered(0), 15);
        due("the second in ORDER", z.covered(14), 15);
        due("the first in ORDER", z.covered(15), NONE);
        due("count(6)", z.count(6), 15);
    }

    private static void idleEdges() {
        sentence("(where there is no next one it is not IDLE; so one that is no PACKET's FIRST is IDLE)");
        FieldSorter x = new FieldSorter();
        x.rule(5, 3);
        due("no next one", x.idle(0), 0);
        due("count(5)", x.count(5), 0);
        add(x, 6, 3, 0, 63, 0, 63, 0, 63, 0, 2);
        due("no next one for some", x.idle(0), 0);
        due("no PACKET's FIRST", x.idle(1), 1);
        due("count(5)", x.count(5), 1);
        add(x, 6, 3, 0, 63, 0, 63, 0, 63, 3, 3);
        due("a next one for all", x.idle(0), 1);
        due("count(5)", x.count(5), 3);
        sentence("for each PACKET of which it is the FIRST, the next RULE in ORDER that FITS it has the same ACTION");
        int[][] corners = {{0, 0, 0, 0}, {63, 63, 63, 3}, {31, 32, 63, 1}};
        for (int[] c : corners) {
            FieldSorter y = new FieldSorter();
            y.rule(5, 3);
            y.rule(7, 3);
            due("the same ACTION for all", y.idle(0), 1);
            add(y, 6, 4, c[0], c[0], c[1], c[1], c[2], c[2], c[3], c[3]);
            due("another ACTION for one PACKET", y.idle(0), 0);
            due("that RULE is no PACKET's FIRST", y.idle(2), 1);
            y.rank(2, 8);
            due("it is behind the next one", y.idle(0), 1);
            y.rank(2, 4);
            due("that PACKET is not its own any more", y.idle(0), 1);
            due("the RULE of one PACKET", y.idle(2), 0);
            y.drop(1);
            due("it has no next one now", y.idle(0), 0);
        }
        sentence("IDLE by the next one, not by one behind that");
        FieldSorter z = new FieldSorter();
        z.rule(1, 3);
        z.rule(2, 4);
        z.rule(3, 3);
        due("idle(0)", z.idle(0), 0);
        due("idle(1), no PACKET's FIRST", z.idle(1), 1);
        due("idle(2), no PACKET's FIRST", z.idle(2), 1);
        due("count(5)", z.count(5), 2);
        sentence("5 how many RULES are IDLE, of 16");
        FieldSorter w = new FieldSorter();
        for (int r = 0; r < MOST_RULES; r++) {
            w.rule(7, 3);
        }
        due("all", w.count(5), 16);
        due("the first wins all and is IDLE", w.idle(0) * w.wins(0), ALL);
        w.drop(15);
        due("15", w.count(5), 15);
    }

    private static void packetsEdges() {
        sentence("12 packets: no FIRST (what = -1), or have one of an ACTION (0 to 9)");
        FieldSorter x = new FieldSorter();
        due("no RULE: none has a FIRST", x.packets(-1), ALL);
        for (int action = 0; action <= 9; action++) {
            due("no RULE: packets(" + action + ")", x.packets(action), 0);
        }
        for (int action = 0; action <= 9; action++) {
            addIn(x, 1, 6 * action, 6 * action + action % 6, 3, action);
        }
        int numbers = 0;
        for (int action = 0; action <= 9; action++) {
            due("packets(" + action + ")", x.packets(action), (action % 6 + 1) * 16384);
            numbers += action % 6 + 1;
        }
        due("packets(-1)", x.packets(-1), (64 - numbers) * 16384);
        sentence("12 packets: RULES of one ACTION are added");
        FieldSorter y = new FieldSorter();
        for (int r = 0; r < MOST_RULES; r++) {
            addIn(y, 0, 4 * r, 4 * r + 3, 0, r < 8 ? 0 : 9);
        }
        due("packets(-1)", y.packets(-1), 0);
        due("packets(0)", y.packets(0), ALL / 2);
        due("packets(9)", y.packets(9), ALL / 2);
        due("packets(5)", y.packets(5), 0);
    }

    public static void main(String[] args) {
        upToSixteen();
        numbersAfterDrop();
        orderOfOneRank();
        fitsAllFour();
        draftAtFirst();
        winsFromNoneToAll();
        overlapEdges();
        coveredEdges();
        idleEdges();
        packetsEdges();
        end();
    }
}
