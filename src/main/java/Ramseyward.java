import java.util.Arrays;
import java.util.NoSuchElementException;

/** A ward of what cannot be avoided: colourings, sums, families of sets, expectations and games. */
public final class Ramseyward {
    private static final int MOST_SIX = 6;
    private static final int MOST_PAIRS = 15;
    private static final int MOST_HUES = 3;
    private static final int MOST_CHANCE = 12;
    private static final int NOBODY = -1;

    private int hues = 2;
    private final Wish[] wishes = new Wish[MOST_HUES];
    private final Tree tree = new Tree();
    private final Certificate paper = new Certificate();
    private final Likeness likeness = new Likeness();
    private final Sums sums = new Sums();
    private final Family family = new Family();
    private final Match match = new Match();

    public Ramseyward() {
        for (int hue = 0; hue < MOST_HUES; hue++) {
            wishes[hue] = new Wish();
        }
        tellFirstWishes();
    }

    // ---- wishes ----

    public int colours(int colours) throws IllegalArgumentException {
        checkRange(colours, 2, MOST_HUES);
        int before = hues;
        hues = colours;
        tellFirstWishes();
        tree.forget();
        paper.points = 0;
        return before;
    }

    public int wish(int colour, char kind, int size) throws IndexOutOfBoundsException, IllegalArgumentException {
        checkIndex(colour, hues);
        if (kind != 'k' && kind != 'c' && kind != 'p' && kind != 's') {
            throw new IllegalArgumentException("no such kind");
        }
        checkRange(size, kind == 's' ? 2 : 3, 5);
        int before = wishes[colour].size;
        wishes[colour].tell(kind, size);
        tree.forget();
        return before;
    }

    public char kind(int colour) throws IndexOutOfBoundsException {
        checkIndex(colour, hues);
        return wishes[colour].kind;
    }

    public int pair(int one, int other) throws IllegalArgumentException {
        checkRange(one, 0, MOST_SIX - 1);
        checkRange(other, 0, MOST_SIX - 1);
        if (one == other) {
            throw new IllegalArgumentException("a point makes no pair with itself");
        }
        return pairOf(one, other);
    }

    // ---- colourings ----

    public long avoiding(int points) throws IllegalArgumentException {
        checkRange(points, 2, mostPoints());
        tree.count(points, hues, wishes);
        return tree.leaves[points];
    }

    public long cases(int points) throws IllegalArgumentException {
        checkRange(points, 2, mostPoints());
        tree.count(points, hues, wishes);
        return tree.nodes[points];
    }

    public int kinds(int points) throws IllegalArgumentException {
        checkRange(points, 2, mostPoints() - 1);
        int unlike = 0;
        tree.begin(pairsOf(points), hues);
        for (int found = 0; found < Tree.MANY && tree.next(wishes); found++) {
            if (likeness.isLeast(tree.row, points)) {
                unlike++;
            }
        }
        return unlike;
    }

    public int number() {
        for (int points = 2; points <= mostPoints(); points++) {
            tree.begin(pairsOf(points), hues);
            if (!tree.next(wishes)) {
                return points;
            }
        }
        return -1;
    }

    // ---- the certificate ----

    public int certificate(int points) throws IllegalArgumentException {
        checkRange(points, 2, mostPoints());
        paper.begin(points);
        return paper.pairs();
    }

    public int paint(int pair, int colour) throws IllegalStateException, IndexOutOfBoundsException {
        checkPaper();
        checkIndex(pair, paper.pairs());
        checkIndex(colour, hues);
        paper.hue[pair] = colour;
        return paper.painted();
    }

    public int find(int points) throws IllegalArgumentException, NoSuchElementException {
        checkRange(points, 2, mostPoints());
        tree.begin(pairsOf(points), hues);
        if (!tree.next(wishes)) {
            throw new NoSuchElementException("no colouring avoids");
        }
        paper.begin(points);
        System.arraycopy(tree.row, 0, paper.hue, 0, paper.pairs());
        return paper.hue[paper.pairs() - 1];
    }

    public int colourOf(int pair) throws IllegalStateException, IndexOutOfBoundsException {
        checkPaper();
        checkIndex(pair, paper.pairs());
        return paper.hue[pair];
    }

    public boolean holds() throws IllegalStateException {
        checkPaper();
        return paper.firstFlaw(wishes) < 0;
    }

    public int flaw() throws IllegalStateException, NoSuchElementException {
        checkPaper();
        int pair = paper.firstFlaw(wishes);
        if (pair < 0) {
            throw new NoSuchElementException("the certificate holds");
        }
        return pair;
    }

    public int swap(int one, int other) throws IllegalStateException, IndexOutOfBoundsException {
        checkPaper();
        checkIndex(one, paper.points);
        checkIndex(other, paper.points);
        return paper.exchange(one, other);
    }

    public boolean isFirst() throws IllegalStateException, UnsupportedOperationException {
        checkPaper();
        if (paper.points == MOST_SIX || paper.painted() < paper.pairs()) {
            throw new UnsupportedOperationException("a pair has no colour, or there are 6 points");
        }
        return likeness.isLeast(paper.hue, paper.points);
    }

    // ---- sums ----

    public int bound(char rule, int size, int colours) throws IllegalArgumentException {
        checkRule(rule, size, colours);
        sums.begin(rule, size, colours);
        int reached = sums.reach(0, Sums.MOST);
        return reached < Sums.MOST ? reached + 1 : -1;
    }

    public long ways(char rule, int size, int colours, int last) throws IllegalArgumentException {
        checkRule(rule, size, colours);
        checkRange(last, 1, 12);
        sums.begin(rule, size, colours);
        return sums.count(last);
    }

    public int hueOf(char rule, int size, int colours, int last, int number)
            throws IllegalArgumentException, NoSuchElementException {
        checkRule(rule, size, colours);
        checkRange(last, 1, Sums.MOST);
        checkRange(number, 1, last);
        sums.begin(rule, size, colours);
        if (sums.reach(last - 1, last) < last) {
            throw new NoSuchElementException("there is no such colouring");
        }
        return sums.row[number];
    }

    // ---- most pairs ----

    public int mostPairs(int points) throws IllegalArgumentException {
        checkRange(points, 2, MOST_SIX);
        return wishes[0].mostWithout(pairsOf(points));
    }

    public int mostGraphs(int points) throws IllegalArgumentException {
        checkRange(points, 2, MOST_SIX - 1);
        int pairs = pairsOf(points);
        int most = wishes[0].mostWithout(pairs);
        int unlike = 0;
        for (int graph = 0; graph < 1 << pairs; graph++) {
            if (Integer.bitCount(graph) == most && !wishes[0].isIn(graph) && likeness.isLeastGraph(graph, points)) {
                unlike++;
            }
        }
        return unlike;
    }

    // ---- the family ----

    public int set(int elements) throws IllegalArgumentException, IllegalStateException {
        checkRange(elements, 0, 63);
        int at = family.indexOf(elements);
        if (at >= 0) {
            family.removeAt(at);
        } else if (family.count >= Family.MOST) {
            throw new IllegalStateException("there are 40 sets");
        } else {
            family.insert(elements);
        }
        return family.count;
    }

    public int setAt(int index) throws NoSuchElementException {
        if (index < 0 || index >= family.count) {
            throw new NoSuchElementException("there is no such set");
        }
        return family.sets[index];
    }

    public boolean meets() {
        return family.isMeeting();
    }

    public int chain() throws NoSuchElementException {
        checkFamily();
        return family.longestChain();
    }

    public int antichain() throws NoSuchElementException {
        checkFamily();
        return family.greatestAntichain();
    }

    public int shadow() {
        return family.sizeOfShadow();
    }

    public boolean shatters(int elements) throws IllegalArgumentException {
        checkRange(elements, 0, 63);
        return family.isShattering(elements);
    }

    public int dimension() throws NoSuchElementException {
        checkFamily();
        return family.mostShattered();
    }

    public boolean hasSunflower(int sets) throws IllegalArgumentException {
        checkRange(sets, 2, 5);
        return family.isWithSunflower(sets);
    }

    // ---- expectations ----

    public long expectOver(int points, int size) throws IllegalArgumentException {
        checkChance(points, size);
        long cliques = choose(points, size);
        return cliques / greatestDivisor(cliques, oneChanceIn(size));
    }

    public long expectUnder(int points, int size) throws IllegalArgumentException {
        checkChance(points, size);
        long under = oneChanceIn(size);
        return under / greatestDivisor(choose(points, size), under);
    }

    public boolean isLikely(int points, int size) throws IllegalArgumentException {
        checkChance(points, size);
        long others = 0;
        for (int shared = 2; shared < size; shared++) {
            others += choose(size, shared) * choose(points - size, size - shared);
        }
        return 4 * others <= oneChanceIn(size);
    }

    // ---- games ----

    public int game(char rule, int points) throws IllegalArgumentException {
        if (rule != 'm' && rule != 's' && rule != 'a') {
            throw new IllegalArgumentException("no such rule");
        }
        checkRange(points, 3, 5);
        match.begin(rule, pairsOf(points), wishes[0]);
        return match.pairs;
    }

    public int take(int pair) throws IllegalStateException, IndexOutOfBoundsException, UnsupportedOperationException {
        checkMatch();
        checkIndex(pair, match.pairs);
        if (match.had[pair] != NOBODY) {
            throw new UnsupportedOperationException("the pair is taken");
        }
        return match.give(pair);
    }

    public int turn() throws IllegalStateException {
        checkMatch();
        return match.taken & 1;
    }

    public int winner() throws IllegalStateException {
        checkMatch();
        return match.valueNow();
    }

    public int best() throws IllegalStateException {
        checkMatch();
        return match.firstBest();
    }

    public int holder(int pair) throws IndexOutOfBoundsException {
        checkIndex(pair, match.pairs);
        return match.had[pair];
    }

    // ---- the whole ward ----

    public float paintedShare() throws ArithmeticException {
        int pairs = paper.pairs();
        if (pairs == 0) {
            throw new ArithmeticException("there is no certificate");
        }
        return (float) paper.painted() / (float) pairs;
    }

    public double meanSize() throws ArithmeticException {
        if (family.count == 0) {
            throw new ArithmeticException("the family has no sets");
        }
        int sum = 0;
        for (int at = 0; at < family.count; at++) {
            sum += Integer.bitCount(family.sets[at]);
        }
        return (double) sum / (double) family.count;
    }

    public long checksum() {
        long sum = 7;
        for (int pair = 0; pair < paper.pairs(); pair++) {
            sum = 31 * sum + paper.hue[pair];
        }
        for (int at = 0; at < family.count; at++) {
            sum = 31 * sum + family.sets[at];
        }
        for (int pair = 0; pair < match.pairs; pair++) {
            sum = 31 * sum + match.had[pair];
        }
        return sum;
    }

    public boolean isTrue() {
        boolean isMatchTrue = !match.isOn || match.valueBehind(match.firstBest()) == match.valueNow();
        return isTreeTrue() && family.longestChain() == family.fewestAntichains() && isMatchTrue;
    }

    private boolean isTreeTrue() {
        tree.count(4, hues, wishes);
        if (tree.leaves[4] != tree.countOneByOne(4, hues, wishes)) {
            return false;
        }
        tree.begin(pairsOf(4), hues);
        return !tree.next(wishes) || Certificate.flawOf(tree.row, pairsOf(4), wishes) < 0;
    }

    // ---- what calls have in common ----

    private void tellFirstWishes() {
        for (int hue = 0; hue < MOST_HUES; hue++) {
            wishes[hue].tell('k', 3);
        }
    }

    private int mostPoints() {
        return hues == 3 ? 5 : MOST_SIX;
    }

    private static void checkRange(int number, int least, int most) {
        if (number < least || number > most) {
            throw new IllegalArgumentException("a number is out of range");
        }
    }

    private static void checkIndex(int index, int end) {
        if (index < 0 || index >= end) {
            throw new IndexOutOfBoundsException("there is no such one");
        }
    }

    private static void checkRule(char rule, int size, int colours) {
        if (rule != 's' && rule != 'd' && rule != 'p' && rule != 'e') {
            throw new IllegalArgumentException("no such rule");
        }
        if (rule == 'p') {
            checkRange(size, 3, 5);
        }
        if (rule == 'e') {
            checkRange(size, 2, 5);
        }
        checkRange(colours, 2, MOST_HUES);
    }

    private static void checkChance(int points, int size) {
        checkRange(points, 2, MOST_CHANCE);
        checkRange(size, 2, 5);
    }

    private void checkPaper() {
        if (paper.points == 0) {
            throw new IllegalStateException("there is no certificate");
        }
    }

    private void checkFamily() {
        if (family.count == 0) {
            throw new NoSuchElementException("the family has no sets");
        }
    }

    private void checkMatch() {
        if (!match.isOn) {
            throw new IllegalStateException("no game goes on");
        }
    }

    /** The number n of the chance 1 by n that a clique of so many points is of one colour. */
    private long oneChanceIn(int size) {
        long under = 1;
        for (int pair = 1; pair < pairsOf(size); pair++) {
            under *= hues;
        }
        return under;
    }

    private static long choose(int all, int some) {
        if (all < some) {
            return 0;
        }
        long ways = 1;
        for (int at = 1; at <= some; at++) {
            ways = ways * (all - some + at) / at;
        }
        return ways;
    }

    private static long greatestDivisor(long one, long other) {
        long high = one;
        long low = other;
        for (int step = 0; step < 100 && low != 0; step++) {
            long rest = high % low;
            high = low;
            low = rest;
        }
        return Math.max(1, high);
    }

    private static int pairsOf(int points) {
        return points * (points - 1) / 2;
    }

    private static int pairOf(int one, int other) {
        int high = one > other ? one : other;
        int low = one > other ? other : one;
        return pairsOf(high) + low;
    }

    /** A wished thing, with a bit for each graph of 6 points that says whether it is in the graph. */
    private static final class Wish {
        private static final int WORDS = 512;
        private static final long[] WITHOUT_BIT = {
            0x5555555555555555L, 0x3333333333333333L, 0x0F0F0F0F0F0F0F0FL,
            0x00FF00FF00FF00FFL, 0x0000FFFF0000FFFFL, 0x00000000FFFFFFFFL};

        char kind = ' ';
        int size;
        final long[] inGraph = new long[WORDS];
        private final int[] line = new int[MOST_SIX];

        void tell(char newKind, int newSize) {
            if (kind == newKind && size == newSize) {
                return;
            }
            kind = newKind;
            size = newSize;
            Arrays.fill(inGraph, 0L);
            markCopies(this, 0, 0, 0);
            spreadToGreaterGraphs();
        }

        void copyFrom(Wish other) {
            kind = other.kind;
            size = other.size;
            System.arraycopy(other.inGraph, 0, inGraph, 0, WORDS);
        }

        boolean isIn(int graph) {
            return (inGraph[graph >> 6 & WORDS - 1] >>> (graph & 63) & 1L) != 0;
        }

        int mostWithout(int pairs) {
            int most = 0;
            for (int graph = 0; graph < 1 << pairs; graph++) {
                if (!isIn(graph)) {
                    most = Math.max(most, Integer.bitCount(graph));
                }
            }
            return most;
        }

        private int pointsNeeded() {
            return kind == 's' ? size + 1 : size;
        }

        /** Marks every graph that is the wished thing and nothing more, point behind point. */
        private static void markCopies(Wish wish, int placed, int used, int graph) {
            if (placed >= MOST_SIX || placed == wish.pointsNeeded()) {
                wish.mark(wish.kind == 'c' ? graph | 1 << pairOf(wish.line[0], wish.line[placed - 1]) : graph);
                return;
            }
            for (int point = 0; point < MOST_SIX; point++) {
                if ((used >> point & 1) == 0 && wish.isInOrder(placed, point)) {
                    wish.line[placed] = point;
                    markCopies(wish, placed + 1, used | 1 << point, graph | wish.pairsTo(placed, point));
                }
            }
        }

        /** The points of a clique, and the ends of a star, would give the same copy in every order. */
        private boolean isInOrder(int placed, int point) {
            boolean isFree = kind == 'c' || kind == 'p' || placed == 0 || kind == 's' && placed == 1;
            return isFree || point > line[placed - 1];
        }

        private int pairsTo(int placed, int point) {
            if (placed == 0) {
                return 0;
            }
            if (kind != 'k') {
                return 1 << pairOf(point, kind == 's' ? line[0] : line[placed - 1]);
            }
            int graph = 0;
            for (int at = 0; at < placed; at++) {
                graph |= 1 << pairOf(point, line[at]);
            }
            return graph;
        }

        private void mark(int graph) {
            inGraph[graph >> 6 & WORDS - 1] |= 1L << (graph & 63);
        }

        /** A graph with more pairs has what one with fewer of them has. */
        private void spreadToGreaterGraphs() {
            for (int word = 0; word < WORDS; word++) {
                long graphs = inGraph[word];
                for (int bit = 0; bit < WITHOUT_BIT.length; bit++) {
                    graphs |= (graphs & WITHOUT_BIT[bit]) << (1 << bit);
                }
                inGraph[word] = graphs;
            }
            for (int step = 1; step < WORDS; step *= 2) {
                for (int word = 0; word < WORDS; word++) {
                    if ((word & step) != 0) {
                        inGraph[word] |= inGraph[word - step];
                    }
                }
            }
        }
    }

    /** The tree of cases, walked in order from one avoiding colouring to the next. */
    private static final class Tree {
        /** More than all cases there can be: 3 colours and 10 pairs have less than a tenth of it. */
        static final int MANY = 1000000;

        final int[] row = new int[MOST_PAIRS];
        final long[] leaves = new long[MOST_SIX + 1];
        final long[] nodes = new long[MOST_SIX + 1];
        private final int[] graphs = new int[MOST_HUES];
        private int hues;
        private int pairs;
        private int at;
        private long tried;

        void begin(int newPairs, int newHues) {
            pairs = newPairs;
            hues = newHues;
            at = 0;
            tried = 0;
            Arrays.fill(row, -1);
            Arrays.fill(graphs, 0);
        }

        boolean next(Wish[] wishes) {
            for (int step = 0; step < MANY && at >= 0; step++) {
                int hue = row[at];
                int bit = 1 << at;
                if (hue >= 0) {
                    graphs[hue] &= ~bit;
                }
                hue++;
                if (hue >= hues) {
                    row[at] = -1;
                    at--;
                    continue;
                }
                row[at] = hue;
                graphs[hue] |= bit;
                tried++;
                if (wishes[hue].isIn(graphs[hue])) {
                    continue;
                }
                if (at == pairs - 1) {
                    return true;
                }
                at++;
            }
            return false;
        }

        /** The counts stay good until a wish is told anew: a tree always has cases, so 0 says not counted. */
        void count(int points, int newHues, Wish[] wishes) {
            if (nodes[points] != 0) {
                return;
            }
            begin(pairsOf(points), newHues);
            long found = 0;
            while (found < MANY && next(wishes)) {
                found++;
            }
            leaves[points] = found;
            nodes[points] = tried;
        }

        void forget() {
            Arrays.fill(nodes, 0L);
        }

        long countOneByOne(int points, int newHues, Wish[] wishes) {
            begin(pairsOf(points), newHues);
            int all = 1;
            for (int pair = 0; pair < pairs; pair++) {
                all *= hues;
            }
            long found = 0;
            for (int colouring = 0; colouring < all; colouring++) {
                int rest = colouring;
                for (int pair = 0; pair < pairs; pair++) {
                    row[pair] = hues == 3 ? rest % 3 : rest % 2;
                    rest = hues == 3 ? rest / 3 : rest / 2;
                }
                if (Certificate.flawOf(row, pairs, wishes) < 0) {
                    found++;
                }
            }
            return found;
        }
    }

    /** A typed colouring; it has no points while there is none. */
    private static final class Certificate {
        int points;
        final int[] hue = new int[MOST_PAIRS];
        private final int[] old = new int[MOST_PAIRS];

        void begin(int newPoints) {
            points = newPoints;
            Arrays.fill(hue, -1);
        }

        int pairs() {
            return pairsOf(points);
        }

        int painted() {
            int sum = 0;
            for (int pair = 0; pair < pairs(); pair++) {
                if (hue[pair] >= 0) {
                    sum++;
                }
            }
            return sum;
        }

        int firstFlaw(Wish[] wishes) {
            return flawOf(hue, pairs(), wishes);
        }

        /** Returns -1 if the colouring holds. */
        static int flawOf(int[] row, int pairs, Wish[] wishes) {
            for (int pair = 0; pair < pairs; pair++) {
                if (row[pair] < 0) {
                    return pair;
                }
            }
            int first = -1;
            for (int colour = 0; colour < MOST_HUES; colour++) {
                int graph = 0;
                for (int pair = 0; pair < pairs; pair++) {
                    if (row[pair] != colour) {
                        continue;
                    }
                    graph |= 1 << pair;
                    if (wishes[colour].isIn(graph)) {
                        first = first < 0 ? pair : Math.min(first, pair);
                        break;
                    }
                }
            }
            return first;
        }

        int exchange(int one, int other) {
            System.arraycopy(hue, 0, old, 0, MOST_PAIRS);
            int changed = 0;
            for (int high = 1; high < points; high++) {
                for (int low = 0; low < high; low++) {
                    int pair = pairOf(low, high);
                    hue[pair] = old[pairOf(exchanged(low, one, other), exchanged(high, one, other))];
                    if (hue[pair] != old[pair]) {
                        changed++;
                    }
                }
            }
            return changed;
        }

        private static int exchanged(int point, int one, int other) {
            return point == one ? other : point == other ? one : point;
        }
    }

    /** Tells whether a colouring is the first one of those that are like it. */
    private static final class Likeness {
        private static final int MOST_POINTS = 5;

        private final int[] row = new int[MOST_PAIRS];
        private final int[] from = new int[MOST_SIX];

        boolean isLeast(int[] hue, int points) {
            return !isAnyAhead(hue, from, points, 0, 0);
        }

        boolean isLeastGraph(int graph, int points) {
            for (int pair = 0; pair < pairsOf(points); pair++) {
                row[pair] = graph >> pair & 1;
            }
            return isLeast(row, points);
        }

        /**
         * Whether a renumbering, whose first points are chosen and so far leave the colouring as it is, puts one
         * ahead of it: pairs are in order by their greater point, so each point chosen settles all pairs up to it.
         */
        private static boolean isAnyAhead(int[] hue, int[] from, int points, int chosen, int used) {
            if (chosen >= points || chosen >= MOST_POINTS) {
                return false;
            }
            for (int point = 0; point < points; point++) {
                if ((used >> point & 1) != 0) {
                    continue;
                }
                from[chosen] = point;
                int order = compareAt(hue, from, chosen);
                if (order < 0 || order == 0 && isAnyAhead(hue, from, points, chosen + 1, used | 1 << point)) {
                    return true;
                }
            }
            return false;
        }

        private static int compareAt(int[] hue, int[] from, int high) {
            for (int low = 0; low < high; low++) {
                int order = Integer.compare(hue[pairOf(from[low], from[high])], hue[pairOf(low, high)]);
                if (order != 0) {
                    return order;
                }
            }
            return 0;
        }
    }

    /** Colourings of the whole numbers, each number behind the lesser ones. */
    private static final class Sums {
        static final int MOST = 30;

        final int[] row = new int[MOST + 1];
        private char rule;
        private int size;
        private int hues;
        private int reached;
        private int goal;
        private final int[] kept = new int[MOST_HUES];
        private final int[] mirror = new int[MOST_HUES];
        private final int[] barred = new int[MOST_HUES];

        void begin(char newRule, int newSize, int newHues) {
            rule = newRule;
            size = newSize;
            hues = newHues;
            Arrays.fill(kept, 0);
            Arrays.fill(mirror, 0);
            Arrays.fill(barred, 0);
        }

        /** Returns the greatest last number with a colouring, looked for above one that counts as reached. */
        int reach(int already, int newGoal) {
            reached = already;
            goal = newGoal;
            grow(this, 0, 0);
            return reached;
        }

        long count(int last) {
            return countBehind(this, 0, 0, last);
        }

        /** A new colour is only tried as the lowest of those not yet used: others come behind in order. */
        private static void grow(Sums sums, int at, int used) {
            if (at > sums.reached) {
                sums.reached = at;
            }
            if (at >= MOST) {
                return;
            }
            int next = at + 1;
            for (int hue = 0; hue < sums.hues && hue <= used && sums.reached < sums.goal; hue++) {
                if (sums.isBarred(next, hue)) {
                    continue;
                }
                int oldKept = sums.kept[hue];
                int oldMirror = sums.mirror[hue];
                int oldBarred = sums.barred[hue];
                sums.put(next, hue);
                if (sums.isMoreOpen(next)) {
                    grow(sums, next, hue == used ? used + 1 : used);
                }
                sums.kept[hue] = oldKept;
                sums.mirror[hue] = oldMirror;
                sums.barred[hue] = oldBarred;
            }
        }

        /** Colours that are not yet used have like counts, so one of them stands for all. */
        private static long countBehind(Sums sums, int at, int used, int last) {
            int next = at + 1;
            if (next >= last) {
                return sums.openHues(next);
            }
            long sum = 0;
            for (int hue = 0; hue < sums.hues && hue <= used; hue++) {
                if (sums.isBarred(next, hue)) {
                    continue;
                }
                int oldKept = sums.kept[hue];
                int oldMirror = sums.mirror[hue];
                int oldBarred = sums.barred[hue];
                sums.put(next, hue);
                long behind = countBehind(sums, next, hue == used ? used + 1 : used, last);
                sum += hue == used ? (sums.hues - used) * behind : behind;
                sums.kept[hue] = oldKept;
                sums.mirror[hue] = oldMirror;
                sums.barred[hue] = oldBarred;
            }
            return sum;
        }

        private boolean isBarred(int number, int hue) {
            return (barred[hue] >>> number & 1) != 0;
        }

        private int openHues(int number) {
            int open = 0;
            for (int hue = 0; hue < hues; hue++) {
                if (!isBarred(number, hue)) {
                    open++;
                }
            }
            return open;
        }

        /** Whether no number that must be passed to get further than ever is barred in all colours. */
        private boolean isMoreOpen(int at) {
            int nowhere = barred[0] & barred[1] & (hues == 3 ? barred[2] : -1);
            int ahead = (1 << (reached + 2)) - (1 << (at + 1));
            return (nowhere & ahead) == 0;
        }

        private void put(int number, int hue) {
            row[number] = hue;
            barred[hue] |= barredBy(number, hue);
            kept[hue] |= 1 << number;
            mirror[hue] |= 1 << (MOST + 1 - number);
        }

        /** The greater numbers that a number and the lesser ones of its colour bar from this colour. */
        private int barredBy(int number, int hue) {
            if (rule == 's') {
                return (kept[hue] | 1 << number) << number;
            }
            if (rule == 'd') {
                return kept[hue] << number;
            }
            if (rule == 'e') {
                return number * size <= MOST ? 1 << (number * size) : 0;
            }
            return stepsOf(mirror[hue] >>> (MOST + 1 - number), number) << number;
        }

        /** Of the steps down to a number of the colour, those that only the next number up is wanting for. */
        private int stepsOf(int steps, int number) {
            if (size <= 3) {
                return steps;
            }
            int good = 0;
            for (int step = 1; step * (size - 2) < number; step++) {
                boolean isGood = true;
                for (int times = 1; times <= size - 2; times++) {
                    isGood = isGood && (steps >>> (step * times) & 1) != 0;
                }
                if (isGood) {
                    good |= 1 << step;
                }
            }
            return good;
        }
    }

    /** Sets as bits, in order by how many elements they have, then by their bits. */
    private static final class Family {
        static final int MOST = 40;

        int count;
        final int[] sets = new int[MOST];
        private final int[] rank = new int[MOST];
        private final int[] partner = new int[MOST];
        private long seen;

        int indexOf(int elements) {
            for (int at = 0; at < count; at++) {
                if (sets[at] == elements) {
                    return at;
                }
            }
            return -1;
        }

        void removeAt(int index) {
            count--;
            for (int at = index; at < count; at++) {
                sets[at] = sets[at + 1];
            }
        }

        void insert(int elements) {
            int at = count;
            while (at > 0 && isAhead(elements, sets[at - 1])) {
                sets[at] = sets[at - 1];
                at--;
            }
            sets[at] = elements;
            count++;
        }

        private static boolean isAhead(int one, int other) {
            int order = Integer.compare(Integer.bitCount(one), Integer.bitCount(other));
            return order < 0 || order == 0 && one < other;
        }

        private static boolean isPart(int one, int other) {
            return (one & other) == one && one != other;
        }

        boolean isMeeting() {
            for (int one = 0; one < count; one++) {
                for (int other = 0; other <= one; other++) {
                    if ((sets[one] & sets[other]) == 0) {
                        return false;
                    }
                }
            }
            return true;
        }

        /** The parts of a set stand ahead of it, so their chains are known when it comes. */
        int longestChain() {
            int longest = 0;
            for (int at = 0; at < count; at++) {
                rank[at] = 1;
                for (int below = 0; below < at; below++) {
                    if (isPart(sets[below], sets[at])) {
                        rank[at] = Math.max(rank[at], rank[below] + 1);
                    }
                }
                longest = Math.max(longest, rank[at]);
            }
            return longest;
        }

        /** Takes away all sets without a part that is left, again and again: each time an antichain. */
        int fewestAntichains() {
            long left = (1L << count) - 1;
            int antichains = 0;
            while (left != 0 && antichains < MOST) {
                left &= ~leastOf(left);
                antichains++;
            }
            return antichains;
        }

        private long leastOf(long left) {
            long least = left;
            for (int one = 0; one < count; one++) {
                for (int other = 0; other < count; other++) {
                    if ((left >>> other & 1) != 0 && isPart(sets[other], sets[one])) {
                        least &= ~(1L << one);
                    }
                }
            }
            return least;
        }

        /** It has as many sets as the fewest chains into which the family can be parted. */
        int greatestAntichain() {
            Arrays.fill(partner, -1);
            int chains = count;
            for (int at = 0; at < count; at++) {
                seen = 0;
                if (isMatched(this, at, 0)) {
                    chains--;
                }
            }
            return chains;
        }

        /** Whether the set can have one above it in its chain, the chains so far being changed for it. */
        private static boolean isMatched(Family family, int below, int depth) {
            if (depth >= MOST) {
                return false;
            }
            for (int above = 0; above < family.count; above++) {
                if ((family.seen >>> above & 1) != 0 || !isPart(family.sets[below], family.sets[above])) {
                    continue;
                }
                family.seen |= 1L << above;
                int other = family.partner[above];
                if (other < 0 || isMatched(family, other, depth + 1)) {
                    family.partner[above] = below;
                    return true;
                }
            }
            return false;
        }

        int sizeOfShadow() {
            long shadows = 0;
            for (int at = 0; at < count; at++) {
                for (int element = 0; element < 6; element++) {
                    if ((sets[at] >> element & 1) != 0) {
                        shadows |= 1L << (sets[at] & ~(1 << element));
                    }
                }
            }
            return Long.bitCount(shadows);
        }

        boolean isShattering(int elements) {
            long parts = 0;
            for (int at = 0; at < count; at++) {
                parts |= 1L << (sets[at] & elements);
            }
            return Long.bitCount(parts) == 1 << Integer.bitCount(elements);
        }

        int mostShattered() {
            int most = 0;
            for (int elements = 0; elements < 64; elements++) {
                if (Integer.bitCount(elements) > most && isShattering(elements)) {
                    most = Integer.bitCount(elements);
                }
            }
            return most;
        }

        boolean isWithSunflower(int petals) {
            for (int one = 0; one < count; one++) {
                for (int other = one + 1; other < count; other++) {
                    int core = sets[one] & sets[other];
                    if (isBloom(this, core, (sets[one] | sets[other]) & ~core, other + 1, petals - 2)) {
                        return true;
                    }
                }
            }
            return false;
        }

        /** Whether so many more sets have the core and, beyond it, nothing of what others have. */
        private static boolean isBloom(Family family, int core, int taken, int from, int more) {
            if (more <= 0) {
                return true;
            }
            for (int at = from; at < family.count; at++) {
                int petal = family.sets[at] & ~core;
                boolean fits = (family.sets[at] & core) == core && (petal & taken) == 0;
                if (fits && isBloom(family, core, taken | petal, at + 1, more - 1)) {
                    return true;
                }
            }
            return false;
        }
    }

    /** A game, with the winner by best play of each position that was looked at. */
    private static final class Match {
        private static final int MOST = 10;
        private static final int OPEN = -2;
        private static final int[] POWERS = {1, 3, 9, 27, 81, 243, 729, 2187, 6561, 19683};

        boolean isOn;
        int pairs;
        int taken;
        final int[] had = new int[MOST];
        private char rule;
        private int position;
        private final int[] graphs = new int[2];
        private final Wish wish = new Wish();
        /** Two bits a position: 0 not known, otherwise 2 more than the winner. */
        private final int[] known = new int[3691];

        void begin(char newRule, int newPairs, Wish wished) {
            isOn = true;
            rule = newRule;
            pairs = newPairs;
            taken = 0;
            position = 0;
            wish.copyFrom(wished);
            Arrays.fill(had, NOBODY);
            Arrays.fill(graphs, 0);
            Arrays.fill(known, 0);
        }

        int give(int pair) {
            int player = taken & 1;
            had[pair] = player;
            graphs[player] |= 1 << pair;
            position += POWERS[pair] * (player + 1);
            taken++;
            int result = resultFor(player, graphs[player], taken);
            isOn = result == OPEN;
            return isOn ? NOBODY : result;
        }

        int valueNow() {
            return valueOf(this, graphs[0], graphs[1], position, taken);
        }

        int valueBehind(int pair) {
            return valueWith(this, graphs[0], graphs[1], position, taken, pair);
        }

        int firstBest() {
            int value = valueNow();
            int pair = 0;
            while (pair < pairs - 1 && (had[pair] != NOBODY || valueBehind(pair) != value)) {
                pair++;
            }
            return pair;
        }

        /** Who has won as a player has just taken a pair, and so has a graph. */
        private int resultFor(int player, int graph, int nowTaken) {
            boolean isAll = nowTaken >= pairs;
            if (rule == 'm') {
                boolean isMade = player == 0 && wish.isIn(graph);
                return isMade ? 0 : isAll ? 1 : OPEN;
            }
            if (wish.isIn(graph)) {
                return rule == 's' ? player : 1 - player;
            }
            return isAll ? NOBODY : OPEN;
        }

        /** The winner by best play, who is looked for by whose turn it is: itself, then nobody. */
        private static int valueOf(Match match, int zero, int one, int position, int taken) {
            if (taken >= match.pairs || taken >= MOST) {
                return NOBODY;
            }
            int shift = (position & 15) * 2;
            int word = position >> 4;
            int stored = match.known[word] >>> shift & 3;
            if (stored != 0) {
                return stored - 2;
            }
            int player = taken & 1;
            int value = 1 - player;
            for (int pair = 0; pair < match.pairs && value != player; pair++) {
                if (((zero | one) >> pair & 1) == 0) {
                    int behind = valueWith(match, zero, one, position, taken, pair);
                    value = behind == 1 - player ? value : behind;
                }
            }
            match.known[word] |= (value + 2) << shift;
            return value;
        }

        private static int valueWith(Match match, int zero, int one, int position, int taken, int pair) {
            int player = taken & 1;
            int newZero = player == 0 ? zero | 1 << pair : zero;
            int newOne = player == 1 ? one | 1 << pair : one;
            int result = match.resultFor(player, player == 0 ? newZero : newOne, taken + 1);
            if (result != OPEN) {
                return result;
            }
            return valueOf(match, newZero, newOne, position + POWERS[pair] * (player + 1), taken + 1);
        }
    }
}
