import java.util.ArrayList;
import java.util.Comparator;
import java.util.List;

/** The document read word by word, slow and plain: what ModelTest holds FieldSorter against. */
final class PlainModel {
    static final int UNKNOWN = -1, OUTSIDE = -2, STATE = -3, FULL = -4, NONE = -6;
    static final int[] TOP = {63, 63, 63, 3};
    static final int[] BITS = {6, 6, 6, 2};

    record Rule(int rank, int action, int[] low, int[] high) {
        boolean fits(int... packet) {
            for (int f = 0; f < 4; f++) {
                if (packet[f] < low[f] || packet[f] > high[f]) {
                    return false;
                }
            }
            return true;
        }

        boolean meets(int[] from, int[] to) {
            for (int f = 0; f < 4; f++) {
                if (to[f] < low[f] || from[f] > high[f]) {
                    return false;
                }
            }
            return true;
        }
    }

    record Prefix(int value, int length) { }

    record Tuple(int[] lengths, List<Rule> members, int entries) { }

    record Kept(List<Rule> rules, int bin, int deep) { }

    static final class Node {
        int depth;
        int[] low = new int[4];
        int[] high = TOP.clone();
        List<Rule> held = new ArrayList<>();
        int cut = -1;
        Node lower;
        Node upper;
    }

    List<Rule> rules = new ArrayList<>();
    int[] draftLow = new int[4];
    int[] draftHigh = TOP.clone();
    int bin = 2;
    int deep = 6;
    final Kept[] kept = new Kept[2];
    private long[] won;
    private boolean[] idles;
    private long unclaimed;

    private boolean isRule(int r) {
        return r >= 0 && r < rules.size();
    }

    private static boolean isField(int f) {
        return f >= 0 && f <= 3;
    }

    private static boolean isPacket(int... packet) {
        for (int f = 0; f < 4; f++) {
            if (packet[f] < 0 || packet[f] > TOP[f]) {
                return false;
            }
        }
        return true;
    }

    /** The place of a RULE object in the list; records of like content are still two RULES. */
    private int numberOf(Rule rule) {
        for (int r = 0; r < rules.size(); r++) {
            if (rules.get(r) == rule) {
                return r;
            }
        }
        return NONE;
    }

    private boolean ahead(Rule one, Rule other) {
        return one.rank < other.rank || one.rank == other.rank && numberOf(one) < numberOf(other);
    }

    private List<Rule> inOrder() {
        List<Rule> sorted = new ArrayList<>(rules);
        sorted.sort(Comparator.comparingInt(Rule::rank));
        return sorted;
    }

    private int aheadOf(int r) {
        int n = 0;
        for (Rule other : rules) {
            if (ahead(other, rules.get(r))) {
                n++;
            }
        }
        return n;
    }

    int draft(int field, int low, int high) {
        if (!isField(field)) {
            return UNKNOWN;
        }
        if (low < 0 || low > TOP[field] || high < 0 || high > TOP[field] || low > high) {
            return OUTSIDE;
        }
        draftLow[field] = low;
        draftHigh[field] = high;
        return high - low + 1;
    }

    int rule(int rank, int action) {
        if (rank < 0 || rank > 999 || action < 0 || action > 9) {
            return OUTSIDE;
        }
        if (rules.size() == 16) {
            return FULL;
        }
        rules.add(new Rule(rank, action, draftLow, draftHigh));
        draftLow = new int[4];
        draftHigh = TOP.clone();
        won = null;
        return rules.size() - 1;
    }

    int drop(int rule) {
        if (!isRule(rule)) {
            return UNKNOWN;
        }
        rules.remove(rule);
        won = null;
        return rules.size();
    }

    int rank(int rule, int rank) {
        if (!isRule(rule)) {
            return UNKNOWN;
        }
        if (rank < 0 || rank > 999) {
            return OUTSIDE;
        }
        Rule old = rules.get(rule);
        rules.set(rule, new Rule(rank, old.action, old.low, old.high));
        won = null;
        return aheadOf(rule);
    }

    int told(int rule, int what) {
        if (!isRule(rule)) {
            return UNKNOWN;
        }
        Rule r = rules.get(rule);
        return switch (what) {
            case 0 -> r.rank;
            case 1 -> r.action;
            case 2 -> aheadOf(rule);
            case 10 -> r.low[0];
            case 11 -> r.high[0];
            case 12 -> r.low[1];
            case 13 -> r.high[1];
            case 14 -> r.low[2];
            case 15 -> r.high[2];
            case 16 -> r.low[3];
            case 17 -> r.high[3];
            default -> OUTSIDE;
        };
    }

    int first(int a, int b, int c, int d) {
        if (!isPacket(a, b, c, d)) {
            return OUTSIDE;
        }
        for (Rule r : inOrder()) {
            if (r.fits(a, b, c, d)) {
                return numberOf(r);
            }
        }
        return NONE;
    }

    private static List<Rule> taking(List<Rule> from, int field, int number) {
        List<Rule> left = new ArrayList<>();
        for (Rule r : from) {
            if (r.low[field] <= number && number <= r.high[field]) {
                left.add(r);
            }
        }
        return left;
    }

    /** Every PACKET one by one. */
    private void survey() {
        if (won != null) {
            return;
        }
        won = new long[rules.size()];
        idles = new boolean[rules.size()];
        java.util.Arrays.fill(idles, true);
        unclaimed = 0;
        for (int a = 0; a < 64; a++) {
            List<Rule> byA = taking(inOrder(), 0, a);
            for (int b = 0; b < 64; b++) {
                List<Rule> byB = taking(byA, 1, b);
                for (int d = 0; d < 4; d++) {
                    List<Rule> byD = taking(byB, 3, d);
                    for (int c = 0; c < 64; c++) {
                        surveyOne(byD, c);
                    }
                }
            }
        }
    }

    private void surveyOne(List<Rule> fitting, int c) {
        Rule first = null;
        Rule next = null;
        for (int i = 0; i < fitting.size() && next == null; i++) {
            Rule r = fitting.get(i);
            if (c < r.low[2] || c > r.high[2]) {
                continue;
            }
            if (first == null) {
                first = r;
            } else {
                next = r;
            }
        }
        if (first == null) {
            unclaimed++;
            return;
        }
        int n = numberOf(first);
        won[n]++;
        if (next == null || next.action != first.action) {
            idles[n] = false;
        }
    }

    int wins(int rule) {
        if (!isRule(rule)) {
            return UNKNOWN;
        }
        survey();
        return (int) won[rule];
    }

    int overlap(int one, int other) {
        if (!isRule(one) || !isRule(other)) {
            return UNKNOWN;
        }
        int n = 1;
        for (int f = 0; f < 4; f++) {
            int both = 0;
            for (int x = 0; x <= TOP[f]; x++) {
                both += taking(List.of(rules.get(one), rules.get(other)), f, x).size() == 2 ? 1 : 0;
            }
            n *= both;
        }
        return n;
    }

    int covered(int rule) {
        if (!isRule(rule)) {
            return UNKNOWN;
        }
        Rule inner = rules.get(rule);
        for (Rule outer : inOrder()) {
            if (ahead(outer, inner) && outer.fits(inner.low) && outer.fits(inner.high)) {
                return numberOf(outer);
            }
        }
        return NONE;
    }

    int idle(int rule) {
        if (!isRule(rule)) {
            return UNKNOWN;
        }
        survey();
        return idles[rule] ? 1 : 0;
    }

    int packets(int what) {
        if (what < -1 || what > 9) {
            return OUTSIDE;
        }
        survey();
        if (what == -1) {
            return (int) unclaimed;
        }
        long n = 0;
        for (int r = 0; r < rules.size(); r++) {
            n += rules.get(r).action == what ? won[r] : 0;
        }
        return (int) n;
    }

    /** From the whole FIELD downwards: a block in the RANGE is taken, one that is half in it is halved. */
    static List<Prefix> prefixes(int low, int high, int start, int length, int bits) {
        int end = start + (1 << (bits - length)) - 1;
        List<Prefix> all = new ArrayList<>();
        if (low <= start && end <= high) {
            all.add(new Prefix(start, length));
        } else if (start <= high && low <= end) {
            all.addAll(prefixes(low, high, start, length + 1, bits));
            all.addAll(prefixes(low, high, (start + end + 1) / 2, length + 1, bits));
        }
        return all;
    }

    private static List<Prefix> splitOf(Rule r, int f) {
        return prefixes(r.low[f], r.high[f], 0, 0, BITS[f]);
    }

    int split(int rule, int field) {
        return !isRule(rule) || !isField(field) ? UNKNOWN : splitOf(rules.get(rule), field).size();
    }

    int prefix(int rule, int field, int i, int what) {
        if (!isRule(rule) || !isField(field)) {
            return UNKNOWN;
        }
        if (what < 0 || what > 1) {
            return OUTSIDE;
        }
        List<Prefix> all = splitOf(rules.get(rule), field);
        if (i < 0 || i >= all.size()) {
            return NONE;
        }
        return what == 0 ? all.get(i).value : all.get(i).length;
    }

    private static int withLength(Rule r, int f, int length) {
        int n = 0;
        for (Prefix p : splitOf(r, f)) {
            n += p.length == length ? 1 : 0;
        }
        return n;
    }

    private List<Tuple> tuples() {
        List<Rule> sorted = inOrder();
        int[][][] counts = new int[sorted.size()][4][7];
        for (int r = 0; r < sorted.size(); r++) {
            for (int f = 0; f < 4; f++) {
                for (int l = 0; l <= BITS[f]; l++) {
                    counts[r][f][l] = withLength(sorted.get(r), f, l);
                }
            }
        }
        List<Tuple> all = new ArrayList<>();
        for (int key = 0; key < 7 * 7 * 7 * 3; key++) {
            int[] l = {key / 147, key / 21 % 7, key / 3 % 7, key % 3};
            List<Rule> members = new ArrayList<>();
            int entries = 0;
            for (int r = 0; r < sorted.size(); r++) {
                int n = counts[r][0][l[0]] * counts[r][1][l[1]] * counts[r][2][l[2]] * counts[r][3][l[3]];
                if (n > 0) {
                    members.add(sorted.get(r));
                    entries += n;
                }
            }
            if (!members.isEmpty()) {
                all.add(new Tuple(l, members, entries));
            }
        }
        all.sort((s, t) -> {
            if (s.members.get(0) != t.members.get(0)) {
                return ahead(s.members.get(0), t.members.get(0)) ? -1 : 1;
            }
            for (int f = 0; f < 4; f++) {
                if (s.lengths[f] != t.lengths[f]) {
                    return t.lengths[f] - s.lengths[f];
                }
            }
            return 0;
        });
        return all;
    }

    int tuple(int i, int what) {
        if (what < 0 || what > 6) {
            return OUTSIDE;
        }
        List<Tuple> all = tuples();
        if (i < 0 || i >= all.size()) {
            return NONE;
        }
        Tuple t = all.get(i);
        return switch (what) {
            case 4 -> t.entries;
            case 5 -> numberOf(t.members.get(0));
            case 6 -> t.members.size();
            default -> t.lengths[what];
        };
    }

    private static boolean fitsBy(Rule r, int[] lengths, int[] packet) {
        for (int f = 0; f < 4; f++) {
            boolean has = false;
            for (Prefix p : splitOf(r, f)) {
                int end = p.value + (1 << (BITS[f] - p.length)) - 1;
                has |= p.length == lengths[f] && p.value <= packet[f] && packet[f] <= end;
            }
            if (!has) {
                return false;
            }
        }
        return true;
    }

    int probe(int a, int b, int c, int d, int what) {
        if (!isPacket(a, b, c, d) || what < 0 || what > 2) {
            return OUTSIDE;
        }
        Rule found = null;
        int probed = 0;
        int last = NONE;
        List<Tuple> all = tuples();
        for (int i = 0; i < all.size(); i++) {
            Tuple t = all.get(i);
            if (found != null && !ahead(t.members.get(0), found)) {
                break;
            }
            probed++;
            last = i;
            for (Rule r : t.members) {
                if (fitsBy(r, t.lengths, new int[] {a, b, c, d})) {
                    if (found == null || ahead(r, found)) {
                        found = r;
                    }
                    break;
                }
            }
        }
        return what == 0 ? (found == null ? NONE : numberOf(found)) : what == 1 ? probed : last;
    }

    int grow(int what, int n) {
        if (what < 0 || what > 1 || n < 1 || n > (what == 0 ? 4 : 8)) {
            return OUTSIDE;
        }
        int was = what == 0 ? bin : deep;
        if (what == 0) {
            bin = n;
        } else {
            deep = n;
        }
        return was;
    }

    private Node half(Node above, int f, boolean upper) {
        Node n = new Node();
        n.depth = above.depth + 1;
        n.low = above.low.clone();
        n.high = above.high.clone();
        int middle = (above.low[f] + above.high[f]) / 2;
        if (upper) {
            n.low[f] = middle + 1;
        } else {
            n.high[f] = middle;
        }
        for (Rule r : inOrder()) {
            if (r.meets(n.low, n.high)) {
                n.held.add(r);
            }
        }
        return n;
    }

    private void cut(Node node) {
        if (node.held.size() <= bin || node.depth == deep) {
            return;
        }
        int bestMore = 0;
        int bestBoth = 0;
        for (int f = 0; f < 4; f++) {
            if (node.low[f] == node.high[f]) {
                continue;
            }
            Node lower = half(node, f, false);
            Node upper = half(node, f, true);
            int more = Math.max(lower.held.size(), upper.held.size());
            int both = lower.held.size() + upper.held.size();
            if (more >= node.held.size()) {
                continue;
            }
            if (node.cut < 0 || more < bestMore || more == bestMore && both < bestBoth) {
                node.cut = f;
                node.lower = lower;
                node.upper = upper;
                bestMore = more;
                bestBoth = both;
            }
        }
        if (node.cut >= 0) {
            cut(node.lower);
            cut(node.upper);
        }
    }

    private Node top() {
        Node top = new Node();
        top.held = inOrder();
        cut(top);
        return top;
    }

    private static void gather(Node node, List<Node> all) {
        all.add(node);
        if (node.cut >= 0) {
            gather(node.lower, all);
            gather(node.upper, all);
        }
    }

    int tree(int what) {
        if (what < 0 || what > 5) {
            return OUTSIDE;
        }
        List<Node> all = new ArrayList<>();
        gather(top(), all);
        int[] sums = new int[6];
        for (Node n : all) {
            sums[0]++;
            sums[2] = Math.max(sums[2], n.depth);
            if (n.cut < 0) {
                sums[1]++;
                sums[3] += n.held.size();
                sums[4] = Math.max(sums[4], n.held.size());
                sums[5] += n.held.isEmpty() ? 1 : 0;
            }
        }
        return sums[what];
    }

    int walk(int a, int b, int c, int d, int what) {
        if (!isPacket(a, b, c, d) || what < 0 || what > 2 && what < 10 || what > 13) {
            return OUTSIDE;
        }
        int[] packet = {a, b, c, d};
        int[] cuts = new int[4];
        Node n = top();
        while (n.cut >= 0) {
            cuts[n.cut]++;
            n = packet[n.cut] <= n.lower.high[n.cut] ? n.lower : n.upper;
        }
        if (what >= 10) {
            return cuts[what - 10];
        }
        int looked = 0;
        for (Rule r : n.held) {
            looked++;
            if (r.fits(packet)) {
                break;
            }
        }
        return what == 0 ? n.depth : what == 1 ? n.held.size() : looked;
    }

    int image(int k) {
        if (k < 0 || k > 1) {
            return OUTSIDE;
        }
        kept[k] = new Kept(new ArrayList<>(rules), bin, deep);
        return 1;
    }

    int restore(int k) {
        if (k < 0 || k > 1) {
            return OUTSIDE;
        }
        if (kept[k] == null) {
            return STATE;
        }
        rules = new ArrayList<>(kept[k].rules);
        bin = kept[k].bin;
        deep = kept[k].deep;
        won = null;
        return 1;
    }

    int count(int what) {
        int n = 0;
        switch (what) {
            case 0: return rules.size();
            case 1: return tuples().size();
            case 2:
                for (Tuple t : tuples()) {
                    n += t.entries;
                }
                return n;
            case 3: return bin;
            case 4: return deep;
            case 5:
                for (int r = 0; r < rules.size(); r++) {
                    n += idle(r);
                }
                return n;
            case 6:
                for (int r = 0; r < rules.size(); r++) {
                    n += covered(r) == NONE ? 0 : 1;
                }
                return n;
            case 7: return (kept[0] == null ? 0 : 1) + (kept[1] == null ? 0 : 2);
            default: return OUTSIDE;
        }
    }
}
