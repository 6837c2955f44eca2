/** Part 2 of the document, prefixes and tuples: its boundary cases, a sentence at a time. */
public final class PrefixEdgesTest extends Check {
    private static void everySplit() {
        sentence("The SPLIT of a RANGE: the fewest PREFIXES that together have just the numbers of the RANGE, each one once");
        for (int f = 0; f < 4; f++) {
            for (int low = 0; low <= TOP[f]; low++) {
                for (int high = low; high <= TOP[f]; high++) {
                    dueSplit(f, low, high);
                }
            }
        }
    }

    /** Each PREFIX is looked at by itself: in place, of a right LENGTH, next to the one before. */
    private static void dueSplit(int f, int low, int high) {
        FieldSorter x = new FieldSorter();
        addIn(x, f, low, high, 0, 0);
        String range = "FIELD " + f + ", " + low + " to " + high;
        int n = x.split(0, f);
        due(range + ": how many", n, fewest(low, high, BITS[f]));
        int next = low;
        for (int i = 0; i < n; i++) {
            int value = x.prefix(0, f, i, 0);
            int length = x.prefix(0, f, i, 1);
            due(range + ": VALUE " + i, value, next);
            due(range + ": LENGTH " + i + " is 0 to the WIDTH", length >= 0 && length <= BITS[f] ? 1 : 0, 1);
            int size = 1 << (BITS[f] - length);
            due(range + ": the other bits of VALUE " + i, value % size, 0);
            next = value + size;
        }
        due(range + ": the last number", next - 1, high);
        due(range + ": behind the last", x.prefix(0, f, n, 0), NONE);
        due(range + ": below the first", x.prefix(0, f, -1, 1), NONE);
    }

    /** By trying every PREFIX that starts at each number, from the end back. */
    private static int fewest(int low, int high, int bits) {
        int[] need = new int[high + 2];
        for (int at = high; at >= low; at--) {
            need[at] = Integer.MAX_VALUE;
            for (int size = 1; size <= 1 << bits; size *= 2) {
                if (at % size == 0 && at + size - 1 <= high) {
                    need[at] = Math.min(need[at], need[at + size] + 1);
                }
            }
        }
        return need[low];
    }

    private static void widths() {
        sentence("A FIELD has a WIDTH of 6 bits (FIELDS 0 to 2), 2 bits (3); a LENGTH, 0 to the WIDTH");
        for (int f = 0; f < 4; f++) {
            FieldSorter x = new FieldSorter();
            addIn(x, f, 0, TOP[f], 0, 0);
            addIn(x, f, TOP[f], TOP[f], 0, 0);
            addIn(x, f, 0, 0, 0, 0);
            addIn(x, f, 0, TOP[f] - 1, 0, 0);
            addIn(x, f, 1, TOP[f], 0, 0);
            due("all numbers: one PREFIX", x.split(0, f), 1);
            due("its VALUE", x.prefix(0, f, 0, 0), 0);
            due("its LENGTH", x.prefix(0, f, 0, 1), 0);
            due("the greatest number: its VALUE", x.prefix(1, f, 0, 0), TOP[f]);
            due("its LENGTH", x.prefix(1, f, 0, 1), BITS[f]);
            due("the least number: its LENGTH", x.prefix(2, f, 0, 1), BITS[f]);
            due("all but the greatest", x.split(3, f), BITS[f]);
            due("all but the least", x.split(4, f), BITS[f]);
            for (int i = 0; i < BITS[f]; i++) {
                due("all but the greatest, LENGTH " + i, x.prefix(3, f, i, 1), i + 1);
                due("all but the least, LENGTH " + i, x.prefix(4, f, i, 1), BITS[f] - i);
            }
        }
        sentence("13 split: the most PREFIXES");
        FieldSorter x = new FieldSorter();
        add(x, 0, 0, 1, 62, 1, 62, 1, 62, 1, 2);
        int[] most = {10, 10, 10, 2};
        for (int f = 0; f < 4; f++) {
            due("split(0, " + f + ")", x.split(0, f), most[f]);
        }
    }

    private static void tupleOrder() {
        sentence("of one BEST by the LENGTH in FIELD 0, the greater first, then in FIELD 1, and so on");
        // 0 to 62 has LENGTHS 1 to 6, 0 to 2 of FIELD 3 LENGTHS 1 and 2: 6 times 6 times 6 times 2 TUPLES.
        int[] per = {72, 12, 2, 1};
        int[] longest = {6, 6, 6, 2};
        for (int what = 0; what < 4; what++) {
            FieldSorter x = new FieldSorter();
            add(x, 0, 0, 0, 62, 0, 62, 0, 62, 0, 2);
            int lengths = what == 3 ? 2 : 6;
            for (int i = 0; i < 432; i++) {
                due("tuple(" + i + ", " + what + ")", x.tuple(i, what), longest[what] - i / per[what] % lengths);
            }
            due("behind the last", x.tuple(432, what), NONE);
            due("count(1)", x.count(1), 432);
        }
        sentence("TUPLES that have any RULE are numbered from 0 on by their BESTS, in ORDER");
        FieldSorter x = new FieldSorter();
        add(x, 5, 0);
        add(x, 5, 0, 7, 7);
        add(x, 4, 0, 0, 31);
        int[] bests = {2, 0, 1};
        int[] lengths = {1, 0, 6};
        for (int i = 0; i < 3; i++) {
            due("BEST " + i, x.tuple(i, 5), bests[i]);
            due("LENGTH " + i, x.tuple(i, 0), lengths[i]);
        }
        x.rank(1, 3);
        due("a RANK ahead: BEST 0", x.tuple(0, 5), 1);
        x.rank(1, 999);
        x.rank(2, 5);
        for (int i = 0; i < 3; i++) {
            due("one RANK, then 999: BEST " + i, x.tuple(i, 5), new int[] {0, 2, 1}[i]);
        }
        sentence("The BEST of a TUPLE: of the RULES in it the first in ORDER");
        FieldSorter y = new FieldSorter();
        addIn(y, 3, 0, 0, 9, 0);
        addIn(y, 3, 1, 1, 9, 0);
        addIn(y, 3, 2, 2, 9, 0);
        due("of one RANK the least number", y.tuple(0, 5), 0);
        due("one TUPLE", y.count(1), 1);
        y.rank(2, 8);
        due("a RANK ahead", y.tuple(0, 5), 2);
        y.drop(2);
        due("it is gone", y.tuple(0, 5), 0);
        due("two are in it", y.tuple(0, 6), 2);
    }

    private static void entries() {
        sentence("ENTRIES of a TUPLE: .. multiplied over the FIELDS, added: one RULE's least and most");
        FieldSorter x = new FieldSorter();
        x.rule(0, 0);
        due("one entry", x.tuple(0, 4), 1);
        due("count(2)", x.count(2), 1);
        x = new FieldSorter();
        for (int r = 0; r < MOST_RULES; r++) {
            add(x, r, 0, 1, 62, 1, 62, 1, 62, 1, 2);
        }
        due("TUPLES of 16 RULES", x.count(1), 5 * 5 * 5);
        due("ENTRIES of all, the most there may be", x.count(2), 16 * 10 * 10 * 10 * 2);
        for (int i = 0; i < 125; i++) {
            due("ENTRIES of " + i, x.tuple(i, 4), 16 * 2 * 2 * 2 * 2);
            due("RULES in " + i, x.tuple(i, 6), 16);
            due("BEST of " + i, x.tuple(i, 5), 0);
        }
        sentence("ENTRIES after RULES have gone");
        x.drop(0);
        due("15 RULES", x.count(2), 15 * 2000);
        for (int left = 14; left >= 0; left--) {
            x.drop(left);
            due(left + " RULES", x.count(2), left * 2000);
        }
        due("no TUPLE", x.count(1), 0);
        due("no first one", x.tuple(0, 6), NONE);
        sentence("ENTRIES: RULES of several PREFIXES and of one in the same TUPLE");
        x = new FieldSorter();
        // 3 to 12 has two of LENGTH 6 and two of LENGTH 4; 16 to 19 one of LENGTH 4; 5 one of LENGTH 6.
        addIn(x, 1, 3, 12, 2, 0);
        addIn(x, 1, 16, 19, 1, 0);
        addIn(x, 1, 5, 5, 3, 0);
        int[][] wants = {{0, 4, 0, 0, 3, 1, 2}, {0, 6, 0, 0, 3, 0, 2}};
        for (int i = 0; i < 2; i++) {
            for (int what = 0; what <= 6; what++) {
                due("tuple(" + i + ", " + what + ")", x.tuple(i, what), wants[i][what]);
            }
        }
        due("count(2)", x.count(2), 6);
    }

    /** As many TUPLES as there are: each FIELD's RANGES are all numbers or all but the greatest. */
    private static FieldSorter mostTuples() {
        FieldSorter x = new FieldSorter();
        for (int r = 0; r < MOST_RULES; r++) {
            for (int f = 0; f < 4; f++) {
                x.draft(f, 0, (r >> f & 1) == 0 ? TOP[f] - 1 : TOP[f]);
            }
            x.rule(r, 0);
        }
        return x;
    }

    private static void allTuples() {
        sentence("A TUPLE is a LENGTH for each FIELD: as many as there are");
        FieldSorter x = mostTuples();
        due("count(1)", x.count(1), 7 * 7 * 7 * 3);
        due("the first", x.tuple(0, 0) + 10 * x.tuple(0, 3), 26);
        due("the last", x.tuple(1028, 0) + x.tuple(1028, 1) + x.tuple(1028, 2) + x.tuple(1028, 3), 0);
        due("behind the last", x.tuple(1029, 0), NONE);
        due("the last one's BEST", x.tuple(1028, 5), 15);
        sentence("16 probe: through all TUPLES there are");
        due("found", x.probe(63, 63, 63, 3, 0), 15);
        due("probed", x.probe(63, 63, 63, 3, 1), 1029);
        due("the last", x.probe(63, 63, 63, 3, 2), 1028);
        due("found at once", x.probe(62, 62, 62, 2, 1), 1);
        due("in the first TUPLE", x.probe(62, 62, 62, 2, 2), 0);
    }

    private static void dueProbe(FieldSorter x, String when, int a, int found, int probed, int last) {
        due(when + ": found", x.probe(a, 0, 0, 0, 0), found);
        due(when + ": probed", x.probe(a, 0, 0, 0, 1), probed);
        due(when + ": last", x.probe(a, 0, 0, 0, 2), last);
    }

    private static void probeEnd() {
        sentence("nothing is FOUND at first");
        dueProbe(new FieldSorter(), "no TUPLE", 0, NONE, 0, NONE);
        sentence("if a RULE is FOUND, and the BEST of the next TUPLE is not AHEAD of it, that is the end");
        FieldSorter x = new FieldSorter();
        addIn(x, 0, 0, 32, 5, 0);
        dueProbe(x, "the next one's BEST is the RULE itself", 32, 0, 1, 0);
        dueProbe(x, "found in the last", 31, 0, 2, 1);
        dueProbe(x, "found in the last", 0, 0, 2, 1);
        dueProbe(x, "not found: all are PROBED", 33, NONE, 2, 1);
        x.rule(5, 0);
        dueProbe(x, "the next one's BEST is behind", 32, 0, 1, 0);
        dueProbe(x, "the next one's BEST is behind", 31, 0, 2, 1);
        dueProbe(x, "found in the last", 33, 1, 3, 2);
        sentence("not AHEAD of it, that is the end, also when the RULE that is FOUND is not the first in ORDER");
        FieldSorter v = new FieldSorter();
        // TUPLES: LENGTH 1 (RULE 0), LENGTHS 6 and 2 (RULE 1), LENGTH 0 (RULE 2).
        addIn(v, 0, 0, 31, 1, 0);
        addIn(v, 0, 32, 48, 2, 0);
        v.rule(3, 0);
        dueProbe(v, "the next one's BEST is the RULE itself", 48, 1, 2, 1);
        dueProbe(v, "the next one's BEST is behind", 47, 1, 3, 2);
        dueProbe(v, "found in the last", 49, 2, 4, 3);
        dueProbe(v, "found in the first", 31, 0, 1, 0);
        sentence("the first in ORDER is FOUND, if none is FOUND yet or it is AHEAD of that one");
        FieldSorter y = new FieldSorter();
        // TUPLES: LENGTH 6 (RULES 0, 1), LENGTH 1 (RULES 0, 2); the BEST of both is RULE 0.
        addIn(y, 0, 0, 32, 1, 0);
        addIn(y, 0, 40, 40, 2, 0);
        addIn(y, 0, 32, 63, 3, 0);
        due("two TUPLES", y.count(1), 2);
        dueProbe(y, "one behind is not taken in its place", 40, 1, 2, 1);
        dueProbe(y, "the last RULE alone", 41, 2, 2, 1);
        dueProbe(y, "the BEST ends it", 32, 0, 1, 0);
        y.drop(1);
        addIn(y, 0, 7, 7, 2, 0);
        dueProbe(y, "one AHEAD is taken in its place", 7, 0, 2, 1);
        sentence("of all RULES in it that FIT the PACKET .. the first in ORDER, of one RANK the least number");
        FieldSorter z = new FieldSorter();
        for (int r = 0; r < MOST_RULES; r++) {
            addIn(z, 0, 9, 9, 7, 0);
        }
        dueProbe(z, "16 RULES", 9, 0, 1, 0);
        z.rank(15, 6);
        dueProbe(z, "the 16th ahead", 9, 15, 1, 0);
        dueProbe(z, "none fits", 8, NONE, 1, 0);
        sentence("(in each FIELD the PREFIX of the SPLIT that has the PACKET's number has that LENGTH)");
        for (int f = 0; f < 4; f++) {
            FieldSorter w = new FieldSorter();
            addIn(w, f, 0, TOP[f] - 1, 0, 0);
            for (int number = 0; number <= TOP[f]; number++) {
                int length = 1;
                for (int bit = BITS[f] - 1; bit > 0 && (number >> bit & 1) == 1; bit--) {
                    length++;
                }
                boolean found = number < TOP[f];
                due("FIELD " + f + ", " + number + " is found", probe(w, packet(f, number), 0), found ? 0 : NONE);
                due("FIELD " + f + ", " + number + " by its LENGTH", probe(w, packet(f, number), 1),
                    found ? BITS[f] - length + 1 : BITS[f]);
            }
        }
    }

    private static void otherLengths() {
        sentence("of all RULES in it that FIT the PACKET by PREFIXES of its LENGTHS, not of greater or less ones");
        for (int f = 0; f < 4; f++) {
            int middle = TOP[f] / 2;
            FieldSorter x = new FieldSorter();
            // The lower half has LENGTH 1, the greatest number alone the WIDTH: each FITS in its own TUPLE alone.
            addIn(x, f, 0, middle, 1, 0);
            addIn(x, f, TOP[f], TOP[f], 2, 0);
            due("FIELD " + f + ", a greater LENGTH: found", probe(x, packet(f, TOP[f]), 0), 1);
            due("FIELD " + f + ", a greater LENGTH: probed", probe(x, packet(f, TOP[f]), 1), 2);
            x.rank(0, 3);
            due("FIELD " + f + ", a lesser LENGTH: found", probe(x, packet(f, 0), 0), 0);
            due("FIELD " + f + ", a lesser LENGTH: probed", probe(x, packet(f, 0), 1), 2);
        }
    }

    private static void probeIsFirst() {
        sentence("16 probe: the RULE that is FOUND in the end is the FIRST, none where there is none");
        FieldSorter x = new FieldSorter();
        for (int r = 0; r < MOST_RULES; r++) {
            add(x, 50 - 5 * (r % 7), 0, 3 * r, 40 + r, r, 33 + 2 * r, 1, 62 - r, r % 3, 2 + r % 2);
        }
        for (int i = 0; i < 200; i++) {
            int[] p = {i * 7 % 64, i * 11 % 64, i * 13 % 64, i % 4};
            due("packet " + i, probe(x, p, 0), first(x, p));
        }
    }

    public static void main(String[] args) {
        everySplit();
        widths();
        tupleOrder();
        entries();
        allTuples();
        probeEnd();
        otherLengths();
        probeIsFirst();
        end();
    }
}
