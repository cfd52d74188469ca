import java.util.ArrayList;
import java.util.Arrays;
import java.util.HashMap;
import java.util.HashSet;
import java.util.List;
import java.util.Map;
import java.util.NoSuchElementException;
import java.util.Set;
import java.util.TreeSet;

/** The document's words again, by other and slower ways, for comparing. */
final class NaiveWard {
    int hues = 2;
    final char[] kinds = {'k', 'k', 'k'};
    final int[] sizes = {3, 3, 3};
    int points = 0;
    int[] colours = new int[0];
    final Set<Integer> family = new TreeSet<>((a, b) -> {
        int order = Integer.bitCount(a) - Integer.bitCount(b);
        return order != 0 ? order : a - b;
    });
    char rule;
    char wishKind;
    int wishSize;
    int[] had = new int[0];
    boolean isOn = false;
    private static final Map<String, Boolean> WISHES = new HashMap<>();
    private static final Map<String, Object> ANSWERS = new HashMap<>();
    private static final Map<String, Integer> VALUES = new HashMap<>();

    // ---- graphs as bits over pairs ----

    static int pairNumber(int one, int other) {
        int number = 0;
        for (int high = 1; high < 6; high++) {
            for (int low = 0; low < high; low++) {
                if (high == Math.max(one, other) && low == Math.min(one, other)) {
                    return number;
                }
                number++;
            }
        }
        throw new AssertionError();
    }

    static boolean joined(int graph, int one, int other) {
        return (graph >> pairNumber(one, other) & 1) != 0;
    }

    static boolean hasWish(int graph, char kind, int size) {
        return WISHES.computeIfAbsent(graph + " " + kind + size, key -> search(graph, kind, size, new ArrayList<>()));
    }

    private static boolean search(int graph, char kind, int size, List<Integer> line) {
        if (kind == 's') {
            for (int centre = 0; centre < 6; centre++) {
                int pairs = 0;
                for (int leaf = 0; leaf < 6; leaf++) {
                    if (leaf != centre && joined(graph, centre, leaf)) {
                        pairs++;
                    }
                }
                if (pairs >= size) {
                    return true;
                }
            }
            return false;
        }
        if (line.size() == size) {
            return kind != 'c' || joined(graph, line.get(0), line.get(size - 1));
        }
        for (int point = 0; point < 6; point++) {
            if (line.contains(point)) {
                continue;
            }
            boolean fits = true;
            for (int at = 0; at < line.size(); at++) {
                if (kind == 'k' || at == line.size() - 1) {
                    fits &= joined(graph, line.get(at), point);
                }
            }
            if (fits) {
                line.add(point);
                boolean found = search(graph, kind, size, line);
                line.remove(line.size() - 1);
                if (found) {
                    return true;
                }
            }
        }
        return false;
    }

    // ---- colourings ----

    int top() {
        return hues == 3 ? 5 : 6;
    }

    private static void range(int number, int low, int high) {
        if (number < low || number > high) {
            throw new IllegalArgumentException();
        }
    }

    private static int pairs(int points) {
        int sum = 0;
        for (int point = 1; point < points; point++) {
            sum += point;
        }
        return sum;
    }

    private boolean avoids(int[] row, int length) {
        for (int hue = 0; hue < hues; hue++) {
            int graph = 0;
            for (int pair = 0; pair < length; pair++) {
                graph |= row[pair] == hue ? 1 << pair : 0;
            }
            if (hasWish(graph, kinds[hue], sizes[hue])) {
                return false;
            }
        }
        return true;
    }

    private String wishText() {
        StringBuilder text = new StringBuilder();
        for (int hue = 0; hue < hues; hue++) {
            text.append(kinds[hue]).append(sizes[hue]);
        }
        return text.toString();
    }

    /** All avoiding colourings of the first pairs, in order. */
    @SuppressWarnings("unchecked")
    private List<int[]> avoiders(int length) {
        String key = "avoiders " + wishText() + " " + length;
        if (!ANSWERS.containsKey(key)) {
            List<int[]> all = new ArrayList<>();
            long end = 1;
            for (int pair = 0; pair < length; pair++) {
                end *= hues;
            }
            int[] row = new int[length];
            for (long code = 0; code < end; code++) {
                long rest = code;
                for (int pair = length - 1; pair >= 0; pair--) {
                    row[pair] = (int) (rest % hues);
                    rest /= hues;
                }
                if (avoids(row, length)) {
                    all.add(row.clone());
                }
            }
            ANSWERS.put(key, all);
        }
        return (List<int[]>) ANSWERS.get(key);
    }

    int colours(int newHues) {
        range(newHues, 2, 3);
        int before = hues;
        hues = newHues;
        Arrays.fill(kinds, 'k');
        Arrays.fill(sizes, 3);
        points = 0;
        colours = new int[0];
        return before;
    }

    int wish(int colour, char kind, int size) {
        index(colour, hues);
        if ("kcps".indexOf(kind) < 0) {
            throw new IllegalArgumentException();
        }
        range(size, kind == 's' ? 2 : 3, 5);
        int before = sizes[colour];
        kinds[colour] = kind;
        sizes[colour] = size;
        return before;
    }

    char kind(int colour) {
        index(colour, hues);
        return kinds[colour];
    }

    private static void index(int at, int end) {
        if (at < 0 || at >= end) {
            throw new IndexOutOfBoundsException();
        }
    }

    int pair(int one, int other) {
        range(one, 0, 5);
        range(other, 0, 5);
        if (one == other) {
            throw new IllegalArgumentException();
        }
        return pairNumber(one, other);
    }

    long avoiding(int p) {
        range(p, 2, top());
        return avoiders(pairs(p)).size();
    }

    long cases(int p) {
        range(p, 2, top());
        long sum = 0;
        for (int length = 0; length < pairs(p); length++) {
            sum += (long) hues * avoiders(length).size();
        }
        return sum;
    }

    private static List<int[]> orders(int p) {
        List<int[]> all = new ArrayList<>();
        List<List<Integer>> parts = new ArrayList<>();
        parts.add(new ArrayList<>());
        while (!parts.isEmpty()) {
            List<Integer> part = parts.remove(parts.size() - 1);
            if (part.size() == p) {
                all.add(part.stream().mapToInt(i -> i).toArray());
                continue;
            }
            for (int point = 0; point < p; point++) {
                if (!part.contains(point)) {
                    List<Integer> more = new ArrayList<>(part);
                    more.add(point);
                    parts.add(more);
                }
            }
        }
        return all;
    }

    private static String leastLike(int[] row, int p) {
        String least = null;
        for (int[] order : orders(p)) {
            char[] image = new char[row.length];
            for (int high = 1; high < p; high++) {
                for (int low = 0; low < high; low++) {
                    image[pairNumber(order[low], order[high])] = (char) ('0' + row[pairNumber(low, high)]);
                }
            }
            String text = new String(image);
            if (least == null || text.compareTo(least) < 0) {
                least = text;
            }
        }
        return least;
    }

    int kinds(int p) {
        range(p, 2, top() - 1);
        String key = "kinds " + wishText() + " " + p;
        return (int) remember(key, () -> {
            Set<String> unlike = new HashSet<>();
            for (int[] row : avoiders(pairs(p))) {
                unlike.add(leastLike(row, p));
            }
            return unlike.size();
        });
    }

    private static Object remember(String key, Check.Call call) {
        if (!ANSWERS.containsKey(key)) {
            ANSWERS.put(key, call.make());
        }
        return ANSWERS.get(key);
    }

    int number() {
        for (int p = 2; p <= top(); p++) {
            if (avoiders(pairs(p)).isEmpty()) {
                return p;
            }
        }
        return -1;
    }

    // ---- certificate ----

    int certificate(int p) {
        range(p, 2, top());
        points = p;
        colours = new int[pairs(p)];
        Arrays.fill(colours, -1);
        return colours.length;
    }

    private void needPaper() {
        if (points == 0) {
            throw new IllegalStateException();
        }
    }

    private int painted() {
        int sum = 0;
        for (int colour : colours) {
            sum += colour >= 0 ? 1 : 0;
        }
        return sum;
    }

    int paint(int pair, int colour) {
        needPaper();
        index(pair, colours.length);
        index(colour, hues);
        colours[pair] = colour;
        return painted();
    }

    int find(int p) {
        range(p, 2, top());
        List<int[]> all = avoiders(pairs(p));
        if (all.isEmpty()) {
            throw new NoSuchElementException();
        }
        points = p;
        colours = all.get(0).clone();
        return colours[colours.length - 1];
    }

    int colourOf(int pair) {
        needPaper();
        index(pair, colours.length);
        return colours[pair];
    }

    boolean holds() {
        needPaper();
        return painted() == colours.length && avoids(colours, colours.length);
    }

    int flaw() {
        needPaper();
        for (int pair = 0; pair < colours.length; pair++) {
            if (colours[pair] < 0) {
                return pair;
            }
        }
        for (int pair = 0; pair < colours.length; pair++) {
            if (!avoids(colours, pair + 1)) {
                return pair;
            }
        }
        throw new NoSuchElementException();
    }

    int swap(int one, int other) {
        needPaper();
        index(one, points);
        index(other, points);
        int[] now = new int[colours.length];
        int changed = 0;
        for (int high = 1; high < points; high++) {
            for (int low = 0; low < high; low++) {
                int newHigh = high == one ? other : high == other ? one : high;
                int newLow = low == one ? other : low == other ? one : low;
                now[pairNumber(newLow, newHigh)] = colours[pairNumber(low, high)];
            }
        }
        for (int pair = 0; pair < now.length; pair++) {
            changed += now[pair] == colours[pair] ? 0 : 1;
        }
        colours = now;
        return changed;
    }

    boolean isFirst() {
        needPaper();
        if (points == 6 || painted() < colours.length) {
            throw new UnsupportedOperationException();
        }
        StringBuilder text = new StringBuilder();
        for (int colour : colours) {
            text.append(colour);
        }
        return leastLike(colours, points).contentEquals(text);
    }

    // ---- sums ----

    private static void needRule(char rule, int size, int hues) {
        if ("sdpe".indexOf(rule) < 0) {
            throw new IllegalArgumentException();
        }
        if (rule == 'p') {
            range(size, 3, 5);
        }
        if (rule == 'e') {
            range(size, 2, 5);
        }
        range(hues, 2, 3);
    }

    /** Whether the numbers 1 to the last one have what may not be, with the last one in it. */
    private static boolean hasBad(char rule, int size, int[] row, int last) {
        if (rule == 's' || rule == 'd') {
            for (int x = 1; x < last; x++) {
                for (int y = x; y < last; y++) {
                    boolean isTold = x + y == last && (rule == 's' || x != y);
                    if (isTold && row[x] == row[last] && row[y] == row[last]) {
                        return true;
                    }
                }
            }
            return false;
        }
        if (rule == 'e') {
            for (int x = 1; x < last; x++) {
                if (x * size == last && row[x] == row[last]) {
                    return true;
                }
            }
            return false;
        }
        for (int step = 1; step < last; step++) {
            int length = 0;
            for (int at = last; at >= 1 && row[at] == row[last]; at -= step) {
                length++;
            }
            if (length >= size) {
                return true;
            }
        }
        return false;
    }

    private static boolean extend(char rule, int size, int hues, int last, int[] row, int at) {
        if (at > last) {
            return true;
        }
        for (int hue = 0; hue < hues; hue++) {
            row[at] = hue;
            if (!hasBad(rule, size, row, at) && extend(rule, size, hues, last, row, at + 1)) {
                return true;
            }
        }
        return false;
    }

    private static int[] firstRow(char rule, int size, int hues, int last) {
        return (int[]) remember("row " + rule + size + " " + hues + " " + last, () -> {
            int[] row = new int[last + 1];
            return extend(rule, size, hues, last, row, 1) ? row : null;
        });
    }

    int bound(char rule, int size, int hues) {
        needRule(rule, size, hues);
        for (int last = 1; last <= 30; last++) {
            if (firstRow(rule, size, hues, last) == null) {
                return last;
            }
        }
        return -1;
    }

    private static long all(char rule, int size, int hues, int last, int[] row, int at) {
        if (at > last) {
            return 1;
        }
        long sum = 0;
        for (int hue = 0; hue < hues; hue++) {
            row[at] = hue;
            sum += hasBad(rule, size, row, at) ? 0 : all(rule, size, hues, last, row, at + 1);
        }
        return sum;
    }

    long ways(char rule, int size, int hues, int last) {
        needRule(rule, size, hues);
        range(last, 1, 12);
        return (long) remember("ways " + rule + size + " " + hues + " " + last,
            () -> all(rule, size, hues, last, new int[last + 1], 1));
    }

    int hueOf(char rule, int size, int hues, int last, int number) {
        needRule(rule, size, hues);
        range(last, 1, 30);
        range(number, 1, last);
        int[] row = firstRow(rule, size, hues, last);
        if (row == null) {
            throw new NoSuchElementException();
        }
        return row[number];
    }

    // ---- most pairs ----

    int mostPairs(int p) {
        range(p, 2, 6);
        return (int) remember("most " + kinds[0] + sizes[0] + p, () -> {
            int most = 0;
            for (int graph = 0; graph < 1 << pairs(p); graph++) {
                if (Integer.bitCount(graph) > most && !hasWish(graph, kinds[0], sizes[0])) {
                    most = Integer.bitCount(graph);
                }
            }
            return most;
        });
    }

    int mostGraphs(int p) {
        range(p, 2, 5);
        return (int) remember("graphs " + kinds[0] + sizes[0] + p, () -> {
            Set<String> unlike = new HashSet<>();
            int most = mostPairs(p);
            for (int graph = 0; graph < 1 << pairs(p); graph++) {
                if (Integer.bitCount(graph) == most && !hasWish(graph, kinds[0], sizes[0])) {
                    int[] row = new int[pairs(p)];
                    for (int pair = 0; pair < row.length; pair++) {
                        row[pair] = graph >> pair & 1;
                    }
                    unlike.add(leastLike(row, p));
                }
            }
            return unlike.size();
        });
    }

    // ---- families ----

    int set(int elements) {
        range(elements, 0, 63);
        if (!family.contains(elements) && family.size() == 40) {
            throw new IllegalStateException();
        }
        if (!family.remove(elements)) {
            family.add(elements);
        }
        return family.size();
    }

    int setAt(int index) {
        if (index < 0 || index >= family.size()) {
            throw new NoSuchElementException();
        }
        return new ArrayList<>(family).get(index);
    }

    boolean meets() {
        for (int one : family) {
            for (int other : family) {
                if ((one & other) == 0) {
                    return false;
                }
            }
        }
        return true;
    }

    private static boolean inside(int one, int other) {
        return (one | other) == other || (one | other) == one;
    }

    private void needFamily() {
        if (family.isEmpty()) {
            throw new NoSuchElementException();
        }
    }

    /** The most sets of which each two stand to each other as asked, by trying. */
    private int most(List<Integer> left, int chosen, boolean asChain, int best) {
        if (chosen + left.size() <= best) {
            return best;
        }
        if (left.isEmpty()) {
            return chosen;
        }
        int first = left.get(0);
        List<Integer> fitting = new ArrayList<>();
        for (int other : left) {
            if (other != first && inside(first, other) == asChain) {
                fitting.add(other);
            }
        }
        int with = most(fitting, chosen + 1, asChain, best);
        return most(left.subList(1, left.size()), chosen, asChain, Math.max(best, with));
    }

    int chain() {
        needFamily();
        return most(new ArrayList<>(family), 0, true, 0);
    }

    int antichain() {
        needFamily();
        return most(new ArrayList<>(family), 0, false, 0);
    }

    int shadow() {
        Set<Integer> all = new HashSet<>();
        for (int one : family) {
            for (int other = 0; other < 64; other++) {
                if ((one & other) == other && Integer.bitCount(one) == Integer.bitCount(other) + 1) {
                    all.add(other);
                }
            }
        }
        return all.size();
    }

    boolean shatters(int elements) {
        range(elements, 0, 63);
        for (int part = 0; part < 64; part++) {
            if ((part & elements) != part) {
                continue;
            }
            boolean isCut = false;
            for (int one : family) {
                isCut |= (one & elements) == part;
            }
            if (!isCut) {
                return false;
            }
        }
        return true;
    }

    int dimension() {
        needFamily();
        int best = 0;
        for (int elements = 0; elements < 64; elements++) {
            if (shatters(elements)) {
                best = Math.max(best, Integer.bitCount(elements));
            }
        }
        return best;
    }

    boolean hasSunflower(int sets) {
        range(sets, 2, 5);
        List<Integer> all = new ArrayList<>(family);
        for (int core = 0; core < 64; core++) {
            if (grows(all, core, new ArrayList<>(), 0, sets)) {
                return true;
            }
        }
        return false;
    }

    private static boolean grows(List<Integer> all, int core, List<Integer> chosen, int from, int sets) {
        if (chosen.size() == sets) {
            return true;
        }
        for (int at = from; at < all.size(); at++) {
            boolean fits = true;
            for (int other : chosen) {
                fits &= (other & all.get(at)) == core;
            }
            if (fits) {
                chosen.add(all.get(at));
                boolean found = grows(all, core, chosen, at + 1, sets);
                chosen.remove(chosen.size() - 1);
                if (found) {
                    return true;
                }
            }
        }
        return false;
    }

    // ---- expectations ----

    private static List<Integer> cliques(int p, int size) {
        List<Integer> all = new ArrayList<>();
        for (int clique = 0; clique < 1 << p; clique++) {
            if (Integer.bitCount(clique) == size) {
                all.add(clique);
            }
        }
        return all;
    }

    private long[] fraction(int p, int size) {
        range(p, 2, 12);
        range(size, 2, 5);
        long over = (long) cliques(p, size).size() * hues;
        long under = 1;
        for (int pair = 0; pair < pairs(size); pair++) {
            under *= hues;
        }
        for (long divisor = under; divisor > 1; divisor--) {
            if (over % divisor == 0 && under % divisor == 0) {
                return new long[] {over / divisor, under / divisor};
            }
        }
        return new long[] {over, under};
    }

    long expectOver(int p, int size) {
        return fraction(p, size)[0];
    }

    long expectUnder(int p, int size) {
        return fraction(p, size)[1];
    }

    boolean isLikely(int p, int size) {
        range(p, 2, 12);
        range(size, 2, 5);
        List<Integer> all = cliques(p, size);
        if (all.isEmpty()) {
            return true;
        }
        int others = 0;
        for (int clique : all) {
            if (clique != all.get(0) && Integer.bitCount(clique & all.get(0)) >= 2) {
                others++;
            }
        }
        double chance = hues;
        for (int pair = 0; pair < pairs(size); pair++) {
            chance /= hues;
        }
        return 4 * chance * others <= 1 + 1e-9;
    }

    // ---- games ----

    int game(char newRule, int p) {
        if ("msa".indexOf(newRule) < 0) {
            throw new IllegalArgumentException();
        }
        range(p, 3, 5);
        rule = newRule;
        wishKind = kinds[0];
        wishSize = sizes[0];
        had = new int[pairs(p)];
        Arrays.fill(had, -1);
        isOn = true;
        return had.length;
    }

    private void needGame() {
        if (!isOn) {
            throw new IllegalStateException();
        }
    }

    private static int takenOf(int[] held) {
        int sum = 0;
        for (int player : held) {
            sum += player >= 0 ? 1 : 0;
        }
        return sum;
    }

    /** The winner as all stands, -1 for nobody, null as long as it goes on. */
    private Integer result(int[] held) {
        boolean[] has = new boolean[2];
        for (int player = 0; player < 2; player++) {
            int graph = 0;
            for (int pair = 0; pair < held.length; pair++) {
                graph |= held[pair] == player ? 1 << pair : 0;
            }
            has[player] = hasWish(graph, wishKind, wishSize);
        }
        boolean isFull = takenOf(held) == held.length;
        if (rule == 'm') {
            return has[0] ? Integer.valueOf(0) : isFull ? Integer.valueOf(1) : null;
        }
        for (int player = 0; player < 2; player++) {
            if (has[player]) {
                return rule == 's' ? player : 1 - player;
            }
        }
        return isFull ? Integer.valueOf(-1) : null;
    }

    private int value(int[] held) {
        Integer result = result(held);
        if (result != null) {
            return result;
        }
        String key = "" + rule + wishKind + wishSize + Arrays.toString(held);
        Integer known = VALUES.get(key);
        if (known != null) {
            return known;
        }
        int player = takenOf(held) % 2;
        Set<Integer> outcomes = new HashSet<>();
        for (int pair = 0; pair < held.length; pair++) {
            if (held[pair] < 0) {
                held[pair] = player;
                outcomes.add(value(held));
                held[pair] = -1;
            }
        }
        int value = outcomes.contains(player) ? player : outcomes.contains(-1) ? -1 : 1 - player;
        VALUES.put(key, value);
        return value;
    }

    int take(int pair) {
        needGame();
        index(pair, had.length);
        if (had[pair] >= 0) {
            throw new UnsupportedOperationException();
        }
        had[pair] = takenOf(had) % 2;
        Integer result = result(had);
        isOn = result == null;
        return isOn ? -1 : result;
    }

    int turn() {
        needGame();
        return takenOf(had) % 2;
    }

    int winner() {
        needGame();
        return value(had);
    }

    int best() {
        needGame();
        int now = value(had);
        for (int pair = 0; pair < had.length; pair++) {
            if (had[pair] < 0) {
                had[pair] = takenOf(had) % 2;
                int then = value(had);
                had[pair] = -1;
                if (then == now) {
                    return pair;
                }
            }
        }
        throw new AssertionError();
    }

    int holder(int pair) {
        index(pair, had.length);
        return had[pair];
    }

    // ---- the rest ----

    float paintedShare() {
        if (points == 0) {
            throw new ArithmeticException();
        }
        return (float) painted() / (float) colours.length;
    }

    double meanSize() {
        if (family.isEmpty()) {
            throw new ArithmeticException();
        }
        double sum = 0;
        for (int one : family) {
            sum += Integer.bitCount(one);
        }
        return sum / family.size();
    }

    long checksum() {
        long sum = 7;
        for (int colour : colours) {
            sum = 31 * sum + colour;
        }
        for (int one : family) {
            sum = 31 * sum + one;
        }
        for (int player : had) {
            sum = 31 * sum + player;
        }
        return sum;
    }

    boolean isTrue() {
        return true;
    }
}
