import java.util.Arrays;

/** Packets sorted by rules over four fields. Words in capitals are those of DOC.md. */
public final class FieldSorter {
    public static final int UNKNOWN = -1, OUTSIDE = -2, STATE = -3, FULL = -4, NO = -5, NONE = -6;

    private static final int FIELDS = 4;
    private static final int[] WIDTH = {6, 6, 6, 2};
    private static final int[] GREATEST = {63, 63, 63, 3};
    private static final int MOST_NUMBERS = 64;
    private static final int MOST_RULES = 16;
    private static final int GREATEST_RANK = 999;
    private static final int GREATEST_ACTION = 9;
    private static final int IMAGES = 2;

    private final Rules rules;
    private final Parts parts;
    private final Survey survey;
    private final Tuples tuples;
    private final Cutter cutter;
    private final Image[] images;
    private final int[] draftLow;
    private final int[] draftHigh;
    private final int[] packet;

    public FieldSorter() {
        rules = new Rules();
        parts = new Parts(rules);
        survey = new Survey(rules, parts);
        tuples = new Tuples(rules);
        cutter = new Cutter(parts);
        images = new Image[IMAGES];
        for (int k = 0; k < IMAGES; k++) {
            images[k] = new Image();
        }
        draftLow = new int[FIELDS];
        draftHigh = new int[FIELDS];
        packet = new int[FIELDS];
        clearDraft();
    }

    // ---- 1 rules

    public int draft(int field, int low, int high) {
        if (!isField(field)) {
            return UNKNOWN;
        }
        if (!isNumber(field, low) || !isNumber(field, high) || low > high) {
            return OUTSIDE;
        }
        draftLow[field] = low;
        draftHigh[field] = high;
        return high - low + 1;
    }

    public int rule(int rank, int action) {
        if (!isRank(rank) || !isAction(action)) {
            return OUTSIDE;
        }
        if (rules.size >= MOST_RULES) {
            return FULL;
        }
        rules.add(draftLow, draftHigh, rank, action);
        clearDraft();
        rulesChanged();
        return rules.size - 1;
    }

    public int drop(int rule) {
        if (!rules.has(rule)) {
            return UNKNOWN;
        }
        rules.remove(rule);
        rulesChanged();
        return rules.size;
    }

    public int rank(int rule, int rank) {
        if (!rules.has(rule)) {
            return UNKNOWN;
        }
        if (!isRank(rank)) {
            return OUTSIDE;
        }
        rules.ranks[rule] = rank;
        rulesChanged();
        return rules.place[rule];
    }

    public int told(int rule, int what) {
        if (!rules.has(rule)) {
            return UNKNOWN;
        }
        switch (what) {
            case 0: return rules.ranks[rule];
            case 1: return rules.actions[rule];
            case 2: return rules.place[rule];
            default: return toldBound(rule, what - 10);
        }
    }

    public int first(int a, int b, int c, int d) {
        if (!isPacket(a, b, c, d)) {
            return OUTSIDE;
        }
        setPacket(a, b, c, d);
        return ruleAt(lowestBit(parts.fitting(packet)));
    }

    public int wins(int rule) {
        if (!rules.has(rule)) {
            return UNKNOWN;
        }
        survey.refresh();
        return survey.won[rules.place[rule]];
    }

    public int overlap(int one, int other) {
        if (!rules.has(one) || !rules.has(other)) {
            return UNKNOWN;
        }
        int both = 1;
        for (int f = 0; f < FIELDS; f++) {
            both *= rules.shared(one, other, f);
        }
        return both;
    }

    public int covered(int rule) {
        if (!rules.has(rule)) {
            return UNKNOWN;
        }
        return rules.coverOf(rule);
    }

    public int idle(int rule) {
        if (!rules.has(rule)) {
            return UNKNOWN;
        }
        survey.refresh();
        return survey.needed[rules.place[rule]] ? 0 : 1;
    }

    public int packets(int what) {
        if (what != -1 && !isAction(what)) {
            return OUTSIDE;
        }
        survey.refresh();
        return what == -1 ? survey.unclaimed : survey.wonByAction(what);
    }

    // ---- 2 prefixes, tuples

    public int split(int rule, int field) {
        if (!rules.has(rule) || !isField(field)) {
            return UNKNOWN;
        }
        int sum = 0;
        for (int length = 0; length <= WIDTH[field]; length++) {
            sum += rules.prefixesOf(rule, field, length);
        }
        return sum;
    }

    public int prefix(int rule, int field, int i, int what) {
        if (!rules.has(rule) || !isField(field)) {
            return UNKNOWN;
        }
        if (what != 0 && what != 1) {
            return OUTSIDE;
        }
        int value = rules.prefixValue(rule, field, i);
        if (value < 0) {
            return NONE;
        }
        return what == 0 ? value : rules.prefixLength(rule, field, value);
    }

    public int tuple(int i, int what) {
        if (what < 0 || what > 6) {
            return OUTSIDE;
        }
        tuples.refresh();
        if (i < 0 || i >= tuples.size) {
            return NONE;
        }
        switch (what) {
            case 4: return tuples.entries[i];
            case 5: return ruleAt(tuples.best[i]);
            case 6: return tuples.members[i];
            default: return tuples.lengthIn(i, what);
        }
    }

    public int probe(int a, int b, int c, int d, int what) {
        if (!isPacket(a, b, c, d) || what < 0 || what > 2) {
            return OUTSIDE;
        }
        setPacket(a, b, c, d);
        tuples.refresh();
        tuples.search(packet);
        switch (what) {
            case 0: return ruleAt(tuples.found);
            case 1: return tuples.probed;
            default: return tuples.probed > 0 ? tuples.probed - 1 : NONE;
        }
    }

    // ---- 3 the tree

    public int grow(int what, int n) {
        if (what == 0 && n >= 1 && n <= Cutter.GREATEST_BIN) {
            int was = cutter.bin;
            cutter.bin = n;
            return was;
        }
        if (what == 1 && n >= 1 && n <= Cutter.GREATEST_DEEP) {
            int was = cutter.deep;
            cutter.deep = n;
            return was;
        }
        return OUTSIDE;
    }

    public int tree(int what) {
        if (what < 0 || what > 5) {
            return OUTSIDE;
        }
        cutter.measure();
        switch (what) {
            case 0: return cutter.nodes;
            case 1: return cutter.leaves;
            case 2: return cutter.deepest;
            case 3: return cutter.leafRules;
            case 4: return cutter.fullest;
            default: return cutter.emptyLeaves;
        }
    }

    public int walk(int a, int b, int c, int d, int what) {
        boolean asksCuts = what >= 10 && isField(what - 10);
        if (!isPacket(a, b, c, d) || !asksCuts && (what < 0 || what > 2)) {
            return OUTSIDE;
        }
        setPacket(a, b, c, d);
        int leaf = cutter.descend(packet);
        if (asksCuts) {
            return cutter.cuts[what - 10];
        }
        switch (what) {
            case 0: return cutter.leafDepth;
            case 1: return Integer.bitCount(leaf);
            default: return lookedAt(leaf, parts.fitting(packet));
        }
    }

    // ---- 4 images

    public int image(int k) {
        if (k < 0 || k >= IMAGES) {
            return OUTSIDE;
        }
        Image image = images[k];
        image.rules.copyFrom(rules);
        image.bin = cutter.bin;
        image.deep = cutter.deep;
        image.kept = true;
        return 1;
    }

    public int restore(int k) {
        if (k < 0 || k >= IMAGES) {
            return OUTSIDE;
        }
        Image image = images[k];
        if (!image.kept) {
            return STATE;
        }
        rules.copyFrom(image.rules);
        cutter.bin = image.bin;
        cutter.deep = image.deep;
        rulesChanged();
        return 1;
    }

    public int count(int what) {
        switch (what) {
            case 0: return rules.size;
            case 1: return countTuples();
            case 2: return countEntries();
            case 3: return cutter.bin;
            case 4: return cutter.deep;
            case 5: return countIdle();
            case 6: return countCovered();
            case 7: return keptImages();
            default: return OUTSIDE;
        }
    }

    // ---- helpers of the calls

    private static boolean isField(int field) {
        return field >= 0 && field < FIELDS;
    }

    private static boolean isNumber(int field, int number) {
        return number >= 0 && number <= GREATEST[field];
    }

    private static boolean isPacket(int a, int b, int c, int d) {
        return isNumber(0, a) && isNumber(1, b) && isNumber(2, c) && isNumber(3, d);
    }

    private static boolean isRank(int rank) {
        return rank >= 0 && rank <= GREATEST_RANK;
    }

    private static boolean isAction(int action) {
        return action >= 0 && action <= GREATEST_ACTION;
    }

    /** The place of the least bit that is set, below 0 if none is. */
    private static int lowestBit(int mask) {
        return mask == 0 ? -1 : Integer.bitCount((mask & -mask) - 1);
    }

    private void setPacket(int a, int b, int c, int d) {
        packet[0] = a;
        packet[1] = b;
        packet[2] = c;
        packet[3] = d;
    }

    private void clearDraft() {
        for (int f = 0; f < FIELDS; f++) {
            draftLow[f] = 0;
            draftHigh[f] = GREATEST[f];
        }
    }

    /** All that is worked out from the RULES is out of date now; the dear parts wait till they are asked for. */
    private void rulesChanged() {
        rules.sort();
        parts.build();
        survey.stale = true;
        tuples.stale = true;
    }

    private int ruleAt(int place) {
        return place >= 0 && place < rules.size ? rules.order[place] : NONE;
    }

    private int toldBound(int rule, int which) {
        if (which < 0 || which >= 2 * FIELDS) {
            return OUTSIDE;
        }
        int field = which >> 1;
        return (which & 1) == 0 ? rules.low[field][rule] : rules.high[field][rule];
    }

    /** How many RULES of a LEAF come up to the first that FITS; what FITS a PACKET is always in its LEAF. */
    private static int lookedAt(int leaf, int fitting) {
        int first = lowestBit(fitting);
        return first < 0 ? Integer.bitCount(leaf) : Integer.bitCount(leaf & ((1 << first) - 1)) + 1;
    }

    private int countTuples() {
        tuples.refresh();
        return tuples.size;
    }

    private int countEntries() {
        tuples.refresh();
        int sum = 0;
        for (int i = 0; i < tuples.size; i++) {
            sum += tuples.entries[i];
        }
        return sum;
    }

    private int countIdle() {
        survey.refresh();
        int sum = 0;
        for (int p = 0; p < rules.size; p++) {
            if (!survey.needed[p]) {
                sum++;
            }
        }
        return sum;
    }

    private int countCovered() {
        int sum = 0;
        for (int r = 0; r < rules.size; r++) {
            if (rules.coverOf(r) != NONE) {
                sum++;
            }
        }
        return sum;
    }

    private int keptImages() {
        int sum = 0;
        for (int k = 0; k < IMAGES; k++) {
            if (images[k].kept) {
                sum += 1 << k;
            }
        }
        return sum;
    }

    /** The RULES by number, with their ORDER; size never passes MOST_RULES. */
    private static final class Rules {
        int size = 0;
        final int[][] low = new int[FIELDS][MOST_RULES];
        final int[][] high = new int[FIELDS][MOST_RULES];
        final int[] ranks = new int[MOST_RULES];
        final int[] actions = new int[MOST_RULES];
        /** The RULES' numbers in ORDER, and the place in it of each RULE. */
        final int[] order = new int[MOST_RULES];
        final int[] place = new int[MOST_RULES];

        boolean has(int rule) {
            return rule >= 0 && rule < size;
        }

        void add(int[] lows, int[] highs, int rank, int action) {
            if (size >= MOST_RULES) {
                return;
            }
            for (int f = 0; f < FIELDS; f++) {
                low[f][size] = lows[f];
                high[f][size] = highs[f];
            }
            ranks[size] = rank;
            actions[size] = action;
            size++;
        }

        void remove(int rule) {
            if (!has(rule)) {
                return;
            }
            for (int r = rule; r + 1 < size; r++) {
                copyRule(this, r + 1, r);
            }
            size--;
        }

        void copyFrom(Rules source) {
            size = source.size;
            for (int r = 0; r < size; r++) {
                copyRule(source, r, r);
            }
        }

        private void copyRule(Rules source, int from, int to) {
            for (int f = 0; f < FIELDS; f++) {
                low[f][to] = source.low[f][from];
                high[f][to] = source.high[f][from];
            }
            ranks[to] = source.ranks[from];
            actions[to] = source.actions[from];
        }

        void sort() {
            for (int r = 0; r < size; r++) {
                int ahead = 0;
                for (int q = 0; q < size; q++) {
                    if (isAhead(q, r)) {
                        ahead++;
                    }
                }
                place[r] = ahead;
                order[ahead] = r;
            }
        }

        private boolean isAhead(int one, int other) {
            return ranks[one] < ranks[other] || ranks[one] == ranks[other] && one < other;
        }

        boolean takes(int rule, int field, int number) {
            return low[field][rule] <= number && number <= high[field][rule];
        }

        /** How many numbers of a FIELD two RULES share. */
        int shared(int one, int other, int field) {
            int from = Math.max(low[field][one], low[field][other]);
            int to = Math.min(high[field][one], high[field][other]);
            return Math.max(0, to - from + 1);
        }

        int coverOf(int rule) {
            for (int p = 0; p < place[rule]; p++) {
                if (holds(order[p], rule)) {
                    return order[p];
                }
            }
            return NONE;
        }

        private boolean holds(int outer, int inner) {
            for (int f = 0; f < FIELDS; f++) {
                if (low[f][outer] > low[f][inner] || high[f][outer] < high[f][inner]) {
                    return false;
                }
            }
            return true;
        }

        /** The LENGTH of the PREFIX of the SPLIT that has a number: the widest that stays within the RANGE. */
        int prefixLength(int rule, int field, int number) {
            for (int length = 0; length < WIDTH[field]; length++) {
                int last = (1 << (WIDTH[field] - length)) - 1;
                int start = number & ~last;
                if (low[field][rule] <= start && start + last <= high[field][rule]) {
                    return length;
                }
            }
            return WIDTH[field];
        }

        /** The VALUE of the i-th PREFIX of the SPLIT, below 0 if there is none. */
        int prefixValue(int rule, int field, int i) {
            int start = low[field][rule];
            for (int k = 0; k < MOST_NUMBERS && start <= high[field][rule]; k++) {
                if (k == i) {
                    return start;
                }
                start += 1 << (WIDTH[field] - prefixLength(rule, field, start));
            }
            return -1;
        }

        /** How many PREFIXES of a LENGTH the SPLIT has: those in the RANGE, less the halves of shorter ones in it. */
        int prefixesOf(int rule, int field, int length) {
            int shorter = length > 0 ? prefixesWithin(rule, field, length - 1) : 0;
            return prefixesWithin(rule, field, length) - 2 * shorter;
        }

        private int prefixesWithin(int rule, int field, int length) {
            int bits = WIDTH[field] - length;
            int from = (low[field][rule] + (1 << bits) - 1) >> bits;
            int end = (high[field][rule] + 1) >> bits;
            return Math.max(0, end - from);
        }
    }

    /**
     * Which RULES have a number in a part of a FIELD. Part 1 is the whole FIELD, parts 2 n and 2 n + 1 are the
     * halves of part n, so that a number alone is the part (GREATEST + 1 + number). Bit p of a mask stands for
     * the RULE at place p of ORDER: the lowest bit of a mask is the first in ORDER.
     */
    private static final class Parts {
        final int[][] meeting = new int[FIELDS][2 * MOST_NUMBERS];
        private final Rules rules;

        Parts(Rules rules) {
            this.rules = rules;
        }

        void build() {
            for (int f = 0; f < FIELDS; f++) {
                fillNumbers(meeting[f], f);
                for (int part = GREATEST[f]; part >= 1; part--) {
                    meeting[f][part] = meeting[f][2 * part] | meeting[f][2 * part + 1];
                }
            }
        }

        /** A RULE's bit is turned where its RANGE starts and behind its end; summed up, it is set in between. */
        private void fillNumbers(int[] row, int field) {
            int base = GREATEST[field] + 1;
            for (int number = 0; number <= GREATEST[field]; number++) {
                row[base + number] = 0;
            }
            for (int p = 0; p < rules.size; p++) {
                int rule = rules.order[p];
                row[base + rules.low[field][rule]] ^= 1 << p;
                int behind = rules.high[field][rule] + 1;
                if (behind <= GREATEST[field]) {
                    row[base + behind] ^= 1 << p;
                }
            }
            for (int number = 1; number <= GREATEST[field]; number++) {
                row[base + number] ^= row[base + number - 1];
            }
        }

        int ofNumber(int field, int number) {
            return meeting[field][GREATEST[field] + 1 + number];
        }

        int fitting(int[] packet) {
            int mask = all();
            for (int f = 0; f < FIELDS; f++) {
                mask &= ofNumber(f, packet[f]);
            }
            return mask;
        }

        int all() {
            return (1 << rules.size) - 1;
        }
    }

    /** Of how many PACKETS each RULE is the FIRST, and whether it is IDLE; by places in ORDER. */
    private static final class Survey {
        /** How many PACKETS the FIELDS from one on make, for each FIELD and behind the last. */
        private static final int[] REST = {64 * 64 * 64 * 4, 64 * 64 * 4, 64 * 4, 4, 1};

        boolean stale = true;
        int unclaimed = 0;
        final int[] won = new int[MOST_RULES];
        final boolean[] needed = new boolean[MOST_RULES];
        /** Runs of neighbouring numbers that the same RULES take: how many, which RULES, how many numbers. */
        private final int[] runs = new int[FIELDS];
        private final int[][] runMask = new int[FIELDS][MOST_NUMBERS];
        private final int[][] runNumbers = new int[FIELDS][MOST_NUMBERS];
        private final Rules rules;
        private final Parts parts;

        Survey(Rules rules, Parts parts) {
            this.rules = rules;
            this.parts = parts;
        }

        void refresh() {
            if (!stale) {
                return;
            }
            unclaimed = 0;
            for (int p = 0; p < MOST_RULES; p++) {
                won[p] = 0;
                needed[p] = false;
            }
            for (int f = 0; f < FIELDS; f++) {
                gatherRuns(f);
            }
            sweep(0, parts.all(), 1);
            stale = false;
        }

        private void gatherRuns(int field) {
            int last = -1;
            for (int number = 0; number <= GREATEST[field]; number++) {
                int mask = parts.ofNumber(field, number);
                if (last < 0 || mask != runMask[field][last]) {
                    last++;
                    runMask[field][last] = mask;
                    runNumbers[field][last] = 0;
                }
                runNumbers[field][last]++;
            }
            runs[field] = last + 1;
        }

        /**
         * Goes through the FIELDS by runs, not by numbers, for a million PACKETS are too many; runs that do not
         * differ in the RULES left are taken as one. The RULES of the mask FIT so far, in so many ways.
         */
        private void sweep(int field, int mask, int ways) {
            if (mask == 0 || field >= FIELDS) {
                tally(mask, ways * REST[field]);
                return;
            }
            int left = mask & runMask[field][0];
            int alike = runNumbers[field][0];
            for (int i = 1; i < runs[field]; i++) {
                int next = mask & runMask[field][i];
                if (next != left) {
                    sweep(field + 1, left, ways * alike);
                    left = next;
                    alike = 0;
                }
                alike += runNumbers[field][i];
            }
            sweep(field + 1, left, ways * alike);
        }

        private void tally(int mask, int packets) {
            int first = lowestBit(mask);
            if (first < 0) {
                unclaimed += packets;
                return;
            }
            won[first] += packets;
            int next = lowestBit(mask & (mask - 1));
            if (next < 0 || actionAt(next) != actionAt(first)) {
                needed[first] = true;
            }
        }

        private int actionAt(int place) {
            return rules.actions[rules.order[place]];
        }

        int wonByAction(int action) {
            int sum = 0;
            for (int p = 0; p < rules.size; p++) {
                if (actionAt(p) == action) {
                    sum += won[p];
                }
            }
            return sum;
        }
    }

    /** The TUPLES by number, and the search through them. A TUPLE's key holds its four LENGTHS. */
    private static final class Tuples {
        private static final int[] SHIFT = {8, 5, 2, 0};
        private static final int[] LENGTH_MASK = {7, 7, 7, 3};
        private static final int KEYS = 2048;
        private static final int MOST_TUPLES = 7 * 7 * 7 * 3;
        private static final int MOST_LENGTHS = 7;

        boolean stale = true;
        int size = 0;
        final int[] entries = new int[MOST_TUPLES];
        /** The place in ORDER of the BEST. */
        final int[] best = new int[MOST_TUPLES];
        final int[] members = new int[MOST_TUPLES];
        private final int[] keys = new int[MOST_TUPLES];
        /** By key, the TUPLE's number, below 0 if it has no RULE. */
        private final int[] numberOf = new int[KEYS];
        /** How many PREFIXES of each LENGTH the RULE at hand has. */
        private final int[][] pieces = new int[FIELDS][MOST_LENGTHS];

        /** What the last search came to: a place in ORDER, or below 0, and how many TUPLES were PROBED. */
        int found = -1;
        int probed = 0;
        private final int[] packetKeys = new int[MOST_RULES];
        private final Rules rules;

        Tuples(Rules rules) {
            this.rules = rules;
        }

        int lengthIn(int tuple, int field) {
            return (keys[tuple] >> SHIFT[field]) & LENGTH_MASK[field];
        }

        /** RULES in ORDER, each one's TUPLES with the greater LENGTHS first: new ones come up in their ORDER. */
        void refresh() {
            if (!stale) {
                return;
            }
            size = 0;
            Arrays.fill(numberOf, -1);
            for (int p = 0; p < rules.size; p++) {
                countPieces(rules.order[p]);
                enter(0, 0, 1, p);
            }
            stale = false;
        }

        private void countPieces(int rule) {
            for (int f = 0; f < FIELDS; f++) {
                for (int length = 0; length <= WIDTH[f]; length++) {
                    pieces[f][length] = rules.prefixesOf(rule, f, length);
                }
            }
        }

        private void enter(int field, int key, int product, int place) {
            if (field >= FIELDS) {
                put(key, product, place);
                return;
            }
            for (int length = WIDTH[field]; length >= 0; length--) {
                if (pieces[field][length] > 0) {
                    enter(field + 1, key | length << SHIFT[field], product * pieces[field][length], place);
                }
            }
        }

        private void put(int key, int product, int place) {
            int at = numberOf[key];
            if (at < 0) {
                if (size >= MOST_TUPLES) {
                    return;
                }
                at = size;
                size++;
                numberOf[key] = at;
                keys[at] = key;
                best[at] = place;
                entries[at] = 0;
                members[at] = 0;
            }
            entries[at] += product;
            members[at]++;
        }

        void search(int[] packet) {
            for (int p = 0; p < rules.size; p++) {
                packetKeys[p] = packetKey(rules.order[p], packet);
            }
            found = -1;
            probed = 0;
            for (int i = 0; i < size; i++) {
                if (found >= 0 && best[i] >= found) {
                    return;
                }
                probed++;
                int hit = firstWithKey(keys[i]);
                if (hit >= 0 && (found < 0 || hit < found)) {
                    found = hit;
                }
            }
        }

        /** The key of the one TUPLE in which a RULE FITS a PACKET, below 0 if it does not FIT. */
        private int packetKey(int rule, int[] packet) {
            int key = 0;
            for (int f = 0; f < FIELDS; f++) {
                if (!rules.takes(rule, f, packet[f])) {
                    return -1;
                }
                key |= rules.prefixLength(rule, f, packet[f]) << SHIFT[f];
            }
            return key;
        }

        private int firstWithKey(int key) {
            for (int p = 0; p < rules.size; p++) {
                if (packetKeys[p] == key) {
                    return p;
                }
            }
            return -1;
        }
    }

    /** THE TREE: measured whole, or gone down for one PACKET. It is never kept; the NODE at hand is four parts. */
    private static final class Cutter {
        static final int GREATEST_BIN = 4;
        static final int GREATEST_DEEP = 8;

        int bin = 2;
        int deep = 6;

        /** What measuring came to. */
        int nodes = 0;
        int leaves = 0;
        int deepest = 0;
        int leafRules = 0;
        int fullest = 0;
        int emptyLeaves = 0;

        /** What going down came to. */
        int leafDepth = 0;
        final int[] cuts = new int[FIELDS];

        private final Parts parts;
        private final int[] node = new int[FIELDS];

        Cutter(Parts parts) {
            this.parts = parts;
        }

        void measure() {
            nodes = 0;
            leaves = 0;
            deepest = 0;
            leafRules = 0;
            fullest = 0;
            emptyLeaves = 0;
            Arrays.fill(node, 1);
            visit(parts.all(), 0);
        }

        private void visit(int mask, int depth) {
            nodes++;
            deepest = Math.max(deepest, depth);
            int field = cutField(mask, depth);
            if (field < 0) {
                addLeaf(Integer.bitCount(mask));
                return;
            }
            int whole = node[field];
            node[field] = 2 * whole;
            visit(mask & parts.meeting[field][2 * whole], depth + 1);
            node[field] = 2 * whole + 1;
            visit(mask & parts.meeting[field][2 * whole + 1], depth + 1);
            node[field] = whole;
        }

        private void addLeaf(int held) {
            leaves++;
            leafRules += held;
            fullest = Math.max(fullest, held);
            if (held == 0) {
                emptyLeaves++;
            }
        }

        /** The FIELD in which the NODE at hand is cut, below 0 if it is a LEAF. */
        private int cutField(int mask, int depth) {
            int held = Integer.bitCount(mask);
            if (held <= bin || depth >= deep) {
                return -1;
            }
            int chosen = -1;
            int leastMore = held;
            int leastBoth = 0;
            for (int f = 0; f < FIELDS; f++) {
                if (node[f] > GREATEST[f]) {
                    continue;
                }
                int lower = Integer.bitCount(mask & parts.meeting[f][2 * node[f]]);
                int upper = Integer.bitCount(mask & parts.meeting[f][2 * node[f] + 1]);
                int more = Math.max(lower, upper);
                int both = lower + upper;
                if (more < leastMore || chosen >= 0 && more == leastMore && both < leastBoth) {
                    chosen = f;
                    leastMore = more;
                    leastBoth = both;
                }
            }
            return chosen;
        }

        /** Goes down to a PACKET's LEAF: the mask of the RULES it has. */
        int descend(int[] packet) {
            Arrays.fill(node, 1);
            Arrays.fill(cuts, 0);
            leafDepth = 0;
            int mask = parts.all();
            for (int depth = 0; depth < GREATEST_DEEP; depth++) {
                int field = cutField(mask, depth);
                if (field < 0) {
                    return mask;
                }
                cuts[field]++;
                node[field] = (GREATEST[field] + 1 + packet[field]) >> (WIDTH[field] - cuts[field]);
                mask &= parts.meeting[field][node[field]];
                leafDepth = depth + 1;
            }
            return mask;
        }
    }

    /** What a call of image keeps. */
    private static final class Image {
        boolean kept = false;
        int bin = 0;
        int deep = 0;
        final Rules rules = new Rules();
    }
}
