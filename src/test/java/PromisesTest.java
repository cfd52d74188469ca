import java.util.NoSuchElementException;

/** Each promise by itself: ordinary inputs, the edges that the document names, and wrong inputs. */
public final class PromisesTest {
    private static final int LEAST = Integer.MIN_VALUE;
    private static final int MOST = Integer.MAX_VALUE;

    public static void main(String[] args) {
        newObject();
        wishes();
        pair();
        avoiding();
        cases();
        kinds();
        number();
        certificate();
        paint();
        find();
        holdsAndFlaw();
        swap();
        isFirst();
        bound();
        ways();
        hueOf();
        mostPairs();
        mostGraphs();
        set();
        meets();
        chains();
        shadow();
        shatters();
        hasSunflower();
        expectations();
        isLikely();
        game();
        take();
        bestPlay();
        holder();
        shares();
        checksum();
        isTrue();
        Check.end("PromisesTest");
    }

    private static void same(String what, Object got, Object due) {
        Check.same(what, got, due);
    }

    private static void badNumber(String what, Ramseyward ward, Check.Call call) {
        Check.fails(what, ward, IllegalArgumentException.class, call);
    }

    private static void badIndex(String what, Ramseyward ward, Check.Call call) {
        Check.fails(what, ward, IndexOutOfBoundsException.class, call);
    }

    private static void badState(String what, Ramseyward ward, Check.Call call) {
        Check.fails(what, ward, IllegalStateException.class, call);
    }

    private static void noElement(String what, Ramseyward ward, Check.Call call) {
        Check.fails(what, ward, NoSuchElementException.class, call);
    }

    private static void unsupported(String what, Ramseyward ward, Check.Call call) {
        Check.fails(what, ward, UnsupportedOperationException.class, call);
    }

    // Promise 1
    private static void newObject() {
        Ramseyward ward = new Ramseyward();
        badState("1 no certificate", ward, () -> ward.holds());
        noElement("1 no family", ward, () -> ward.setAt(0));
        badState("1 no game", ward, () -> ward.turn());
        badIndex("1 no last game", ward, () -> ward.holder(0));
        same("1 checksum", ward.checksum(), 7L);
        for (int colour = 0; colour < 2; colour++) {
            same("1 kind", ward.kind(colour), 'k');
            same("1 size", ward.wish(colour, 'k', 3), 3);
        }
        same("1 colours", ward.colours(2), 2);
    }

    // Promises 2 to 4
    private static void wishes() {
        Ramseyward ward = new Ramseyward();
        same("2 before", ward.colours(3), 2);
        same("2 before", ward.colours(3), 3);
        same("3 before", ward.wish(2, 's', 2), 3);
        same("3 before", ward.wish(2, 's', 5), 2);
        same("3 before", ward.wish(0, 'c', 4), 3);
        same("3 before", ward.wish(1, 'p', 5), 3);
        same("4 kind", "" + ward.kind(0) + ward.kind(1) + ward.kind(2), "cps");
        ward.find(4);
        ward.wish(0, 'c', 5);
        same("3 the certificate stays", ward.paintedShare(), 1f);
        ward.set(3);
        ward.game('s', 3);
        ward.take(2);
        for (int colours : new int[] {1, 4, 0, -2, LEAST, MOST}) {
            badNumber("2 colours " + colours, ward, () -> ward.colours(colours));
        }
        same("2 before", ward.colours(3), 3);
        same("2 kinds as at first", "" + ward.kind(0) + ward.kind(1) + ward.kind(2), "kkk");
        same("2 size as at first", ward.wish(2, 'k', 3), 3);
        badState("2 no certificate any more", ward, () -> ward.colourOf(0));
        same("2 the family stays", ward.setAt(0), 3);
        same("2 the game goes on", ward.turn(), 1);
        same("2 before", ward.colours(2), 3);
        for (int colour : new int[] {2, 3, -1, LEAST, MOST}) {
            badIndex("3 colour " + colour, ward, () -> ward.wish(colour, 'k', 3));
            badIndex("3 colour goes first", ward, () -> ward.wish(colour, 'x', 9));
            badIndex("4 colour " + colour, ward, () -> ward.kind(colour));
        }
        for (char kind : new char[] {'x', 'K', 0, 'd', (char) 65535}) {
            badNumber("3 kind", ward, () -> ward.wish(0, kind, 3));
        }
        for (char kind : "kcp".toCharArray()) {
            for (int size : new int[] {2, 6, 0, -3, LEAST, MOST}) {
                badNumber("3 size " + kind + size, ward, () -> ward.wish(1, kind, size));
            }
        }
        for (int size : new int[] {1, 6, 0, -3, LEAST, MOST}) {
            badNumber("3 size s" + size, ward, () -> ward.wish(1, 's', size));
        }
        for (String wish : "k3 k5 c3 c5 p3 p5 s2 s5".split(" ")) {
            int size = wish.charAt(1) - '0';
            ward.wish(0, wish.charAt(0), size);
            same("3 told", ward.wish(0, wish.charAt(0), size), size);
            same("4 told", ward.kind(0), wish.charAt(0));
        }
    }

    // Promise 5
    private static void pair() {
        Ramseyward ward = new Ramseyward();
        int number = 0;
        for (int high = 1; high <= 5; high++) {
            for (int low = 0; low < high; low++) {
                same("5 pair", ward.pair(low, high), number);
                same("5 pair", ward.pair(high, low), number);
                number++;
            }
        }
        for (int point : new int[] {-1, 6, LEAST, MOST}) {
            badNumber("5 one", ward, () -> ward.pair(point, 2));
            badNumber("5 other", ward, () -> ward.pair(2, point));
        }
        for (int point = 0; point <= 5; point++) {
            int at = point;
            badNumber("5 both the same", ward, () -> ward.pair(at, at));
        }
    }

    private static void badPoints(String what, Ramseyward ward, int most, java.util.function.IntFunction<Object> call) {
        for (int points : new int[] {1, 0, -1, most + 1, LEAST, MOST}) {
            badNumber(what + " " + points, ward, () -> call.apply(points));
        }
    }

    // Promise 6
    private static void avoiding() {
        Ramseyward ward = new Ramseyward();
        long[] due = {2, 6, 18, 12, 0};
        for (int points = 2; points <= 6; points++) {
            same("6 avoiding " + points, ward.avoiding(points), due[points - 2]);
        }
        badPoints("6", ward, 6, points -> ward.avoiding(points));
        ward.wish(0, 'k', 4);
        same("6 wishes told anew count", ward.avoiding(6), 2812L);
        ward.colours(2);
        same("6 colours told anew count", ward.avoiding(6), 0L);
        ward.colours(3);
        same("6 three", ward.avoiding(4), 450L);
        badPoints("6 three", ward, 5, points -> ward.avoiding(points));
        ward.wish(0, 'p', 3);
        ward.wish(1, 'p', 3);
        ward.wish(2, 's', 2);
        same("6 no two pairs at a point alike", ward.avoiding(3), 6L);
        same("6 no two pairs at a point alike", ward.avoiding(4), 6L);
        same("6 no two pairs at a point alike", ward.avoiding(5), 0L);
    }

    // Promise 7
    private static void cases() {
        Ramseyward ward = new Ramseyward();
        same("7 one pair", ward.cases(2), 2L);
        same("7 three pairs", ward.cases(3), 14L);
        same("7 six pairs", ward.cases(4), 14L + 12 + 24 + 36);
        badPoints("7", ward, 6, points -> ward.cases(points));
        ward.wish(0, 's', 2);
        ward.wish(1, 's', 2);
        same("7 wishes told anew count", ward.cases(3), 2L + 4 + 4);
        ward.colours(3);
        same("7 three", ward.cases(3), 3L + 9 + 27);
        badPoints("7 three", ward, 5, points -> ward.cases(points));
    }

    // Promise 8
    private static void kinds() {
        Ramseyward ward = new Ramseyward();
        same("8 one pair", ward.kinds(2), 2);
        same("8 three points", ward.kinds(3), 2);
        same("8 four points", ward.kinds(4), 3);
        same("8 five points", ward.kinds(5), 1);
        badPoints("8", ward, 5, points -> ward.kinds(points));
        ward.wish(0, 'k', 5);
        ward.wish(1, 'k', 5);
        same("8 all graphs but two", ward.kinds(5), 34 - 2);
        ward.colours(3);
        same("8 three", ward.kinds(4), 36);
        badPoints("8 three", ward, 4, points -> ward.kinds(points));
    }

    // Promise 9
    private static void number() {
        Ramseyward ward = new Ramseyward();
        same("9 at first", ward.number(), 6);
        ward.wish(0, 'p', 3);
        ward.wish(1, 'p', 3);
        same("9 least", ward.number(), 3);
        ward.wish(0, 'c', 4);
        ward.wish(1, 'c', 4);
        same("9 cycles", ward.number(), 6);
        ward.wish(0, 'k', 4);
        same("9 above 6", ward.number(), -1);
        ward.colours(3);
        same("9 above 5", ward.number(), -1);
        for (int colour = 0; colour < 3; colour++) {
            ward.wish(colour, 's', 2);
        }
        same("9 three", ward.number(), 5);
    }

    // Promises 10 and 13
    private static void certificate() {
        Ramseyward ward = new Ramseyward();
        badState("13 none", ward, () -> ward.colourOf(0));
        badState("13 none goes first", ward, () -> ward.colourOf(-1));
        int[] due = {1, 3, 6, 10, 15};
        for (int points = 2; points <= 6; points++) {
            same("10 pairs", ward.certificate(points), due[points - 2]);
            int pairs = due[points - 2];
            same("13 none typed", ward.colourOf(pairs - 1), -1);
            badIndex("13 behind the last", ward, () -> ward.colourOf(pairs));
        }
        ward.paint(14, 1);
        same("13 typed", ward.colourOf(14), 1);
        badPoints("10", ward, 6, points -> ward.certificate(points));
        badIndex("13 below", ward, () -> ward.colourOf(-1));
        badIndex("13 far", ward, () -> ward.colourOf(MOST));
        badIndex("13 far below", ward, () -> ward.colourOf(LEAST));
        same("10 anew", ward.certificate(6), 15);
        same("10 blank", ward.colourOf(14), -1);
        ward.colours(3);
        same("10 three", ward.certificate(5), 10);
        badPoints("10 three", ward, 5, points -> ward.certificate(points));
    }

    // Promise 11
    private static void paint() {
        Ramseyward ward = new Ramseyward();
        badState("11 none", ward, () -> ward.paint(0, 0));
        badState("11 none goes first", ward, () -> ward.paint(-1, 9));
        ward.certificate(4);
        same("11 first", ward.paint(5, 1), 1);
        same("11 second", ward.paint(0, 0), 2);
        same("11 again", ward.paint(5, 0), 2);
        same("11 again", ward.colourOf(5), 0);
        for (int pair : new int[] {-1, 6, 14, LEAST, MOST}) {
            badIndex("11 pair " + pair, ward, () -> ward.paint(pair, 0));
        }
        for (int colour : new int[] {-1, 2, 3, LEAST, MOST}) {
            badIndex("11 colour " + colour, ward, () -> ward.paint(1, colour));
        }
        ward.colours(3);
        ward.certificate(2);
        same("11 third colour", ward.paint(0, 2), 1);
        same("11 third colour", ward.colourOf(0), 2);
    }

    // Promise 12
    private static void find() {
        Ramseyward ward = new Ramseyward();
        same("12 find", ward.find(5), 0);
        StringBuilder row = new StringBuilder();
        for (int pair = 0; pair < 10; pair++) {
            row.append(ward.colourOf(pair));
        }
        same("12 the first", row.toString(), "0011011100");
        noElement("12 none", ward, () -> ward.find(6));
        badPoints("12", ward, 6, points -> ward.find(points));
        same("12 smaller", ward.find(3), 1);
        badIndex("12 smaller", ward, () -> ward.colourOf(3));
        ward.wish(0, 's', 2);
        same("12 wishes count", ward.find(3), 1);
        same("12 wishes count", ward.colourOf(0), 0);
        same("12 wishes count", ward.colourOf(1), 1);
        ward.colours(3);
        badPoints("12 three", ward, 5, points -> ward.find(points));
        same("12 three", ward.find(3), 1);
    }

    private static void type(Ramseyward ward, int points, String row) {
        ward.certificate(points);
        for (int pair = 0; pair < row.length(); pair++) {
            if (row.charAt(pair) != '-') {
                ward.paint(pair, row.charAt(pair) - '0');
            }
        }
    }

    // Promises 14 and 15
    private static void holdsAndFlaw() {
        Ramseyward ward = new Ramseyward();
        badState("14 none", ward, () -> ward.holds());
        badState("15 none", ward, () -> ward.flaw());
        type(ward, 4, "001-0-");
        same("14 not all", ward.holds(), false);
        same("15 the first without", ward.flaw(), 3);
        type(ward, 4, "0000--");
        same("15 without goes first", ward.flaw(), 4);
        type(ward, 4, "001110");
        same("14 holds", ward.holds(), true);
        noElement("15 holds", ward, () -> ward.flaw());
        type(ward, 4, "001011");
        same("14 a triangle at the end", ward.holds(), false);
        same("15 a triangle at the end", ward.flaw(), 5);
        type(ward, 4, "001000");
        same("14 a triangle", ward.holds(), false);
        same("15 a triangle", ward.flaw(), 4);
        type(ward, 4, "111000");
        same("15 the first triangle", ward.flaw(), 2);
        type(ward, 4, "100110");
        ward.wish(1, 'p', 3);
        same("15 another wish", ward.flaw(), 3);
        ward.wish(1, 's', 3);
        ward.wish(0, 'p', 4);
        noElement("15 another wish", ward, () -> ward.flaw());
        ward.wish(0, 'p', 3);
        same("15 both colours", ward.flaw(), 2);
    }

    // Promise 16
    private static void swap() {
        Ramseyward ward = new Ramseyward();
        badState("16 none", ward, () -> ward.swap(0, 0));
        badState("16 none goes first", ward, () -> ward.swap(-1, 7));
        type(ward, 3, "01-");
        same("16 the same", ward.swap(2, 2), 0);
        same("16 two", ward.swap(1, 2), 2);
        same("16 two", ward.colourOf(0) + 10 * ward.colourOf(1), 1);
        same("16 none is another", ward.swap(0, 2), 2);
        same("16 none is another", ward.colourOf(0) + 10 * ward.colourOf(1) + 100 * ward.colourOf(2), 100 - 1);
        for (int point : new int[] {-1, 3, 5, LEAST, MOST}) {
            badIndex("16 one " + point, ward, () -> ward.swap(point, 0));
            badIndex("16 other " + point, ward, () -> ward.swap(0, point));
        }
        type(ward, 6, "000000000000000");
        same("16 all alike", ward.swap(0, 5), 0);
        ward.paint(0, 1);
        same("16 one pair moves", ward.swap(0, 5), 2);
        same("16 one pair moves", ward.colourOf(ward.pair(1, 5)), 1);
    }

    // Promise 17
    private static void isFirst() {
        Ramseyward ward = new Ramseyward();
        badState("17 none", ward, () -> ward.isFirst());
        type(ward, 3, "001");
        same("17 first", ward.isFirst(), true);
        type(ward, 3, "010");
        same("17 not first", ward.isFirst(), false);
        type(ward, 3, "000");
        same("17 need not avoid", ward.isFirst(), true);
        type(ward, 3, "00-");
        unsupported("17 a pair without", ward, () -> ward.isFirst());
        type(ward, 6, "000000000000000");
        unsupported("17 six points", ward, () -> ward.isFirst());
        ward.certificate(6);
        unsupported("17 six points", ward, () -> ward.isFirst());
        type(ward, 2, "1");
        same("17 one pair", ward.isFirst(), true);
        ward.find(5);
        same("17 found", ward.isFirst(), true);
        ward.swap(0, 4);
        same("17 renumbered", ward.isFirst(), false);
        ward.colours(3);
        type(ward, 5, "0000000012");
        same("17 three", ward.isFirst(), true);
        type(ward, 5, "0000000021");
        same("17 three", ward.isFirst(), false);
    }

    private static void badRules(String what, Ramseyward ward, RuleCall call) {
        for (char rule : new char[] {'x', 'S', 'm', 0, 'k', (char) 65535}) {
            badNumber(what + " rule", ward, () -> call.make(rule, 3, 2));
        }
        for (int size : new int[] {2, 6, 0, -1, LEAST, MOST}) {
            badNumber(what + " size p" + size, ward, () -> call.make('p', size, 2));
        }
        for (int size : new int[] {1, 6, 0, -1, LEAST, MOST}) {
            badNumber(what + " size e" + size, ward, () -> call.make('e', size, 2));
        }
        for (int colours : new int[] {1, 4, 0, -1, LEAST, MOST}) {
            badNumber(what + " colours " + colours, ward, () -> call.make('d', 3, colours));
        }
        for (int size : new int[] {LEAST, -1, 0, 2, 6, MOST}) {
            same(what + " size of no meaning", call.make('s', size, 2), call.make('s', 3, 2));
            same(what + " size of no meaning", call.make('d', size, 2), call.make('d', 3, 2));
        }
    }

    private interface RuleCall {
        Object make(char rule, int size, int colours);
    }

    // Promise 18
    private static void bound() {
        Ramseyward ward = new Ramseyward();
        same("18 s 2", ward.bound('s', 0, 2), 5);
        same("18 s 3", ward.bound('s', 0, 3), 14);
        same("18 d 2", ward.bound('d', 0, 2), 9);
        same("18 d 3", ward.bound('d', 0, 3), 24);
        same("18 p3 2", ward.bound('p', 3, 2), 9);
        same("18 p3 3", ward.bound('p', 3, 3), 27);
        for (int size = 4; size <= 5; size++) {
            same("18 p above 30", ward.bound('p', size, 2), -1);
            same("18 p above 30", ward.bound('p', size, 3), -1);
        }
        for (int size = 2; size <= 5; size++) {
            same("18 e has none", ward.bound('e', size, 2), -1);
            same("18 e has none", ward.bound('e', size, 3), -1);
        }
        badRules("18", ward, (rule, size, colours) -> ward.bound(rule, size, colours));
    }

    // Promise 19
    private static void ways() {
        Ramseyward ward = new Ramseyward();
        same("19 one number", ward.ways('s', 0, 2, 1), 2L);
        same("19 one number", ward.ways('p', 5, 3, 1), 3L);
        same("19 s", ward.ways('s', 0, 2, 4), 2L);
        same("19 s", ward.ways('s', 0, 2, 5), 0L);
        same("19 d has 2 and 1 and 1", ward.ways('d', 0, 2, 2), 4L);
        same("19 p", ward.ways('p', 3, 2, 8), 6L);
        same("19 p", ward.ways('p', 3, 3, 12), 19602L);
        same("19 p", ward.ways('p', 4, 2, 10), 356L);
        same("19 p", ward.ways('p', 4, 3, 9), 15210L);
        same("19 p", ward.ways('p', 5, 2, 12), 2638L);
        same("19 p", ward.ways('p', 5, 3, 9), 18612L);
        same("19 e", ward.ways('e', 5, 3, 12), 19683L * 27 * 4 / 9);
        same("19 e", ward.ways('e', 2, 2, 12), 1L << 12 - 6);
        for (int last : new int[] {0, 13, -1, LEAST, MOST}) {
            badNumber("19 last " + last, ward, () -> ward.ways('s', 0, 2, last));
        }
        badRules("19", ward, (rule, size, colours) -> ward.ways(rule, size, colours, 4));
    }

    private static String hues(Ramseyward ward, char rule, int size, int colours, int last) {
        StringBuilder row = new StringBuilder();
        for (int number = 1; number <= last; number++) {
            row.append(ward.hueOf(rule, size, colours, last, number));
        }
        return row.toString();
    }

    // Promise 20
    private static void hueOf() {
        Ramseyward ward = new Ramseyward();
        same("20 s", hues(ward, 's', 0, 2, 4), "0110");
        same("20 s", hues(ward, 's', 0, 2, 1), "0");
        same("20 d", hues(ward, 'd', 0, 2, 8), "00101110");
        same("20 p", hues(ward, 'p', 3, 2, 8), "00110011");
        same("20 e", hues(ward, 'e', 2, 2, 8), "01000101");
        same("20 p 30", hues(ward, 'p', 5, 3, 30).length(), 30);
        for (int number = 1; number <= 5; number++) {
            int at = number;
            noElement("20 none", ward, () -> ward.hueOf('s', 0, 2, 5, at));
        }
        noElement("20 none", ward, () -> ward.hueOf('p', 3, 3, 27, 1));
        noElement("20 none", ward, () -> ward.hueOf('p', 3, 3, 30, 30));
        noElement("20 none", ward, () -> ward.hueOf('d', 3, 3, 24, 1));
        same("20 just below", ward.hueOf('d', 3, 3, 23, 1), 0);
        for (int last : new int[] {0, 31, -1, LEAST, MOST}) {
            badNumber("20 last " + last, ward, () -> ward.hueOf('e', 2, 2, last, 1));
        }
        for (int number : new int[] {0, 6, -1, LEAST, MOST}) {
            badNumber("20 number goes first", ward, () -> ward.hueOf('s', 0, 2, 5, number));
        }
        badRules("20", ward, (rule, size, colours) -> ward.hueOf(rule, size, colours, 4, 3));
    }

    // Promise 21
    private static void mostPairs() {
        Ramseyward ward = new Ramseyward();
        int[] due = {1, 2, 4, 6, 9};
        for (int points = 2; points <= 6; points++) {
            same("21 without a triangle", ward.mostPairs(points), due[points - 2]);
        }
        badPoints("21", ward, 6, points -> ward.mostPairs(points));
        ward.wish(1, 's', 2);
        same("21 the colour 0 alone", ward.mostPairs(6), 9);
        ward.wish(0, 'k', 4);
        same("21 without four", ward.mostPairs(6), 12);
        ward.wish(0, 's', 2);
        same("21 without two at a point", ward.mostPairs(6), 3);
        ward.wish(0, 's', 5);
        same("21 without five at a point", ward.mostPairs(6), 12);
        same("21 no room for a star", ward.mostPairs(5), 10);
        ward.wish(0, 'c', 4);
        same("21 without a square", ward.mostPairs(6), 7);
        ward.colours(3);
        same("21 three", ward.mostPairs(6), 9);
        badPoints("21 three", ward, 6, points -> ward.mostPairs(points));
    }

    // Promise 22
    private static void mostGraphs() {
        Ramseyward ward = new Ramseyward();
        same("22 one pair", ward.mostGraphs(2), 1);
        same("22 without a triangle", ward.mostGraphs(5), 1);
        badPoints("22", ward, 5, points -> ward.mostGraphs(points));
        ward.wish(0, 'p', 4);
        same("22 a triangle or a star", ward.mostGraphs(4), 2);
        ward.wish(0, 'k', 5);
        same("22 all but one", ward.mostGraphs(5), 1);
        ward.colours(3);
        same("22 three", ward.mostGraphs(5), 1);
        badPoints("22 three", ward, 5, points -> ward.mostGraphs(points));
    }

    private static Ramseyward family(int... sets) {
        Ramseyward ward = new Ramseyward();
        for (int elements : sets) {
            ward.set(elements);
        }
        return ward;
    }

    // Promises 23 and 24
    private static void set() {
        Ramseyward ward = new Ramseyward();
        noElement("24 empty", ward, () -> ward.setAt(0));
        same("23 add", ward.set(63), 1);
        same("23 add", ward.set(4), 2);
        same("23 add", ward.set(3), 3);
        same("23 add", ward.set(0), 4);
        same("23 add", ward.set(32), 5);
        int[] due = {0, 4, 32, 3, 63};
        for (int index = 0; index < 5; index++) {
            same("24 in order", ward.setAt(index), due[index]);
        }
        same("23 away", ward.set(32), 4);
        same("23 away", ward.set(0), 3);
        same("24 moved up", ward.setAt(0) * 100 + ward.setAt(1), 403);
        for (int elements : new int[] {-1, 64, LEAST, MOST}) {
            badNumber("23 elements " + elements, ward, () -> ward.set(elements));
        }
        for (int index : new int[] {-1, 3, 40, LEAST, MOST}) {
            noElement("24 index " + index, ward, () -> ward.setAt(index));
        }
        Ramseyward full = new Ramseyward();
        for (int elements = 0; elements < 40; elements++) {
            same("23 to 40", full.set(elements), elements + 1);
        }
        badState("23 there are 40", full, () -> full.set(40));
        badNumber("23 the number goes first", full, () -> full.set(64));
        noElement("24 behind 40", full, () -> full.setAt(40));
        same("23 away at 40", full.set(39), 39);
        same("23 again", full.set(63), 40);
        same("24 the last of 40", full.setAt(39), 63);
    }

    // Promise 25
    private static void meets() {
        same("25 without sets", family().meets(), true);
        same("25 the empty set", family(0).meets(), false);
        same("25 one set", family(8).meets(), true);
        same("25 two", family(3, 6).meets(), true);
        same("25 apart", family(3, 6, 12).meets(), false);
        same("25 three", family(3, 6, 5).meets(), true);
    }

    // Promises 26 and 27
    private static void chains() {
        Ramseyward none = new Ramseyward();
        noElement("26 no sets", none, () -> none.chain());
        noElement("27 no sets", none, () -> none.antichain());
        same("26 one", family(0).chain(), 1);
        same("27 one", family(0).antichain(), 1);
        same("26 a chain", family(0, 1, 3, 7, 15, 31, 63).chain(), 7);
        same("27 a chain", family(0, 1, 3, 7, 15, 31, 63).antichain(), 1);
        same("26 an antichain", family(1, 2, 4, 8).chain(), 1);
        same("27 an antichain", family(1, 2, 4, 8).antichain(), 4);
        same("26 both", family(1, 2, 4, 3, 6, 7).chain(), 3);
        same("27 not of one size", family(1, 6, 10, 2, 14).antichain(), 3);
    }

    // Promise 28
    private static void shadow() {
        same("28 none", family().shadow(), 0);
        same("28 of the empty set", family(0).shadow(), 0);
        same("28 one", family(7).shadow(), 3);
        same("28 in common", family(3, 5).shadow(), 3);
        same("28 in the family too", family(3, 1, 2).shadow(), 3);
        same("28 the whole", family(63).shadow(), 6);
    }

    // Promises 29 and 30
    private static void shatters() {
        Ramseyward none = new Ramseyward();
        same("29 none", none.shatters(0), false);
        noElement("30 none", none, () -> none.dimension());
        Ramseyward ward = family(0, 1, 2, 3);
        same("29 two", ward.shatters(3), true);
        same("29 one", ward.shatters(2), true);
        same("29 the empty set", ward.shatters(0), true);
        same("29 another", ward.shatters(4), false);
        same("29 more", ward.shatters(7), false);
        same("30 two", ward.dimension(), 2);
        same("30 none", family(5).dimension(), 0);
        same("30 by traces", family(4, 9, 18, 35).dimension(), 2);
        for (int elements : new int[] {-1, 64, LEAST, MOST}) {
            badNumber("29 elements " + elements, ward, () -> ward.shatters(elements));
        }
        Ramseyward great = new Ramseyward();
        for (int elements = 0; elements < 32; elements++) {
            great.set(elements);
        }
        same("30 five", great.dimension(), 5);
        same("29 five", great.shatters(31), true);
        same("29 six", great.shatters(63), false);
    }

    // Promise 31
    private static void hasSunflower() {
        Ramseyward ward = family(1, 3, 5, 9);
        for (int sets = 2; sets <= 4; sets++) {
            same("31 a core and a bare one", ward.hasSunflower(sets), true);
        }
        same("31 too few sets", ward.hasSunflower(5), false);
        same("31 any two", family(7, 11).hasSunflower(2), true);
        same("31 one alone", family(7).hasSunflower(2), false);
        same("31 none", family().hasSunflower(2), false);
        same("31 unlike in common", family(3, 6, 5).hasSunflower(3), false);
        same("31 the third has of both", family(3, 12, 22).hasSunflower(3), false);
        same("31 the fourth has of the third", family(1, 2, 12, 52).hasSunflower(4), false);
        same("31 without a core", family(1, 2, 4, 8, 16).hasSunflower(5), true);
        same("31 with the empty set", family(0, 1, 2, 4, 56).hasSunflower(5), true);
        for (int sets : new int[] {1, 6, 0, -1, LEAST, MOST}) {
            badNumber("31 sets " + sets, ward, () -> ward.hasSunflower(sets));
        }
    }

    private static void badChances(String what, Ramseyward ward, ChanceCall call) {
        for (int wrong : new int[] {1, 13, 0, -1, LEAST, MOST}) {
            badNumber(what + " points " + wrong, ward, () -> call.make(wrong, 3));
        }
        for (int wrong : new int[] {1, 6, 0, -1, LEAST, MOST}) {
            badNumber(what + " size " + wrong, ward, () -> call.make(6, wrong));
        }
    }

    private interface ChanceCall {
        Object make(int points, int size);
    }

    private static String fraction(Ramseyward ward, int points, int size) {
        return ward.expectOver(points, size) + "/" + ward.expectUnder(points, size);
    }

    // Promises 32 and 33
    private static void expectations() {
        Ramseyward ward = new Ramseyward();
        same("32 33 triangles", fraction(ward, 5, 3), "5/2");
        same("32 33 pairs", fraction(ward, 12, 2), "66/1");
        same("32 33 none", fraction(ward, 4, 5), "0/1");
        same("32 33 five", fraction(ward, 12, 5), "99/64");
        same("32 33 four", fraction(ward, 4, 4), "1/32");
        ward.colours(3);
        same("32 33 three", fraction(ward, 6, 4), "5/81");
        same("32 33 three", fraction(ward, 12, 5), "88/2187");
        same("32 33 three", fraction(ward, 2, 5), "0/1");
        badChances("32", ward, (points, size) -> ward.expectOver(points, size));
        badChances("33", ward, (points, size) -> ward.expectUnder(points, size));
    }

    // Promise 34
    private static void isLikely() {
        Ramseyward ward = new Ramseyward();
        same("34 too many", ward.isLikely(4, 3), false);
        same("34 no other", ward.isLikely(3, 3), true);
        same("34 no clique", ward.isLikely(2, 5), true);
        same("34 pairs share none", ward.isLikely(12, 2), true);
        same("34 four", ward.isLikely(5, 4), true);
        same("34 four, 32 parts by 8", ward.isLikely(6, 4), false);
        same("34 five", ward.isLikely(8, 5), true);
        same("34 five", ward.isLikely(9, 5), true);
        same("34 five", ward.isLikely(10, 5), false);
        ward.colours(3);
        same("34 three", ward.isLikely(4, 3), false);
        same("34 three", ward.isLikely(8, 4), true);
        badChances("34", ward, (points, size) -> ward.isLikely(points, size));
    }

    // Promise 35
    private static void game() {
        Ramseyward ward = new Ramseyward();
        same("35 three points", ward.game('m', 3), 3);
        same("35 four points", ward.game('s', 4), 6);
        same("35 five points", ward.game('a', 5), 10);
        ward.take(3);
        for (char rule : new char[] {'x', 'M', 0, 'p', (char) 65535}) {
            badNumber("35 rule", ward, () -> ward.game(rule, 4));
        }
        for (int points : new int[] {2, 6, 0, -1, LEAST, MOST}) {
            badNumber("35 points " + points, ward, () -> ward.game('m', points));
        }
        same("35 in place of the other", ward.game('a', 5), 10);
        same("35 in place of the other", ward.holder(3), -1);
        same("35 0 begins", ward.turn(), 0);
    }

    private static int play(Ramseyward ward, int... pairs) {
        int last = -9;
        for (int pair : pairs) {
            last = ward.take(pair);
        }
        return last;
    }

    // Promises 36 and 37
    private static void take() {
        Ramseyward ward = new Ramseyward();
        badState("36 no game", ward, () -> ward.take(0));
        badState("36 no game goes first", ward, () -> ward.take(-1));
        badState("37 no game", ward, () -> ward.turn());
        ward.game('m', 4);
        same("36 nobody yet", play(ward, 0, 5, 1), -1);
        same("37 the other's turn", ward.turn(), 1);
        for (int pair : new int[] {-1, 6, LEAST, MOST}) {
            badIndex("36 pair " + pair, ward, () -> ward.take(pair));
        }
        unsupported("36 taken", ward, () -> ward.take(0));
        unsupported("36 taken", ward, () -> ward.take(5));
        same("36 it goes on", play(ward, 3), -1);
        same("36 the maker has it", play(ward, 2), 0);
        badState("36 ended", ward, () -> ward.take(4));
        badState("36 ended goes first", ward, () -> ward.take(0));
        badState("37 ended", ward, () -> ward.turn());
        ward.game('m', 5);
        same("36 the breaker's triangle counts nothing", play(ward, 9, 0, 8, 1, 6, 2), -1);
        same("36 the maker's does", play(ward, 5), 0);
        ward.game('m', 4);
        same("36 all taken", play(ward, 0, 1, 3, 4, 5, 2), 1);
        ward.game('m', 3);
        same("36 all taken by the maker", play(ward, 0, 1, 2), 1);
        ward.game('s', 4);
        same("36 who first has it", play(ward, 5, 0, 4, 1, 2), 0);
        ward.game('s', 4);
        same("36 the second has it", play(ward, 3, 0, 4, 1, 5, 2), 1);
        ward.game('a', 4);
        same("36 who first has it loses", play(ward, 0, 5, 1, 4, 2), 1);
        ward.game('a', 4);
        same("36 the second has it and loses", play(ward, 3, 0, 4, 1, 5, 2), 0);
        ward.game('a', 3);
        same("36 nobody has it", play(ward, 0, 1, 2), -1);
        ward.game('s', 3);
        same("36 nobody", play(ward, 0, 1, 2), -1);
        badState("36 all taken", ward, () -> ward.take(0));
        ward.wish(0, 's', 2);
        ward.game('m', 3);
        ward.wish(0, 'k', 3);
        same("36 the wish as it began", play(ward, 0, 1, 2), 0);
        ward.game('a', 4);
        ward.colours(3);
        ward.wish(0, 's', 2);
        same("36 the wish as it began", play(ward, 0, 5, 1), -1);
    }

    // Promises 38 and 39
    private static void bestPlay() {
        Ramseyward ward = new Ramseyward();
        badState("38 no game", ward, () -> ward.winner());
        badState("39 no game", ward, () -> ward.best());
        ward.game('m', 5);
        same("38 the maker on five", ward.winner(), 0);
        same("39 the first", ward.best(), 0);
        play(ward, 0, 9, 1);
        same("38 the breaker's turn", ward.winner(), 0);
        same("39 any as it stays", ward.best(), 2);
        ward.game('m', 4);
        same("38 the breaker on four", ward.winner(), 1);
        play(ward, 0, 5, 1);
        same("39 the breaker must", ward.best(), 2);
        play(ward, 3);
        same("38 the maker by that", ward.winner(), 0);
        same("39 the maker takes it", ward.best(), 2);
        ward.game('s', 3);
        same("38 nobody", ward.winner(), -1);
        same("39 nobody", ward.best(), 0);
        ward.wish(0, 's', 2);
        ward.game('s', 3);
        same("38 the first", ward.winner(), 0);
        ward.game('a', 3);
        same("38 who must have it", ward.winner(), 1);
        play(ward, 0, 1);
        same("39 the last one", ward.best(), 2);
        play(ward, 2);
        badState("38 ended", ward, () -> ward.winner());
        badState("39 ended", ward, () -> ward.best());
    }

    // Promise 40
    private static void holder() {
        Ramseyward ward = new Ramseyward();
        badIndex("40 no game", ward, () -> ward.holder(0));
        ward.game('m', 3);
        play(ward, 1, 2);
        same("40 free", ward.holder(0), -1);
        same("40 one", ward.holder(1), 0);
        same("40 other", ward.holder(2), 1);
        for (int pair : new int[] {-1, 3, 9, LEAST, MOST}) {
            badIndex("40 pair " + pair, ward, () -> ward.holder(pair));
        }
        play(ward, 0);
        same("40 ended", ward.holder(0), 0);
        ward.colours(2);
        same("40 ended", ward.holder(2), 1);
    }

    // Promises 41 and 42
    private static void shares() {
        Ramseyward ward = new Ramseyward();
        Check.fails("41 none", ward, ArithmeticException.class, () -> ward.paintedShare());
        Check.fails("42 none", ward, ArithmeticException.class, () -> ward.meanSize());
        ward.certificate(3);
        same("41 blank", ward.paintedShare(), 0f);
        ward.paint(2, 1);
        same("41 a third", ward.paintedShare(), 1f / 3f);
        ward.find(5);
        same("41 all", ward.paintedShare(), 1f);
        ward.set(0);
        same("42 the empty set", ward.meanSize(), 0.0);
        ward.set(63);
        ward.set(1);
        same("42 three sets", ward.meanSize(), 7.0 / 3.0);
        ward.colours(3);
        Check.fails("41 taken away", ward, ArithmeticException.class, () -> ward.paintedShare());
    }

    // Promise 43
    private static void checksum() {
        Ramseyward ward = new Ramseyward();
        same("43 at first", ward.checksum(), 7L);
        ward.game('m', 3);
        ward.take(2);
        same("43 the game", ward.checksum(), ((7L * 31 - 1) * 31 - 1) * 31);
        ward.set(6);
        ward.set(1);
        same("43 sets ahead of it", ward.checksum(), ((((7L * 31 + 1) * 31 + 6) * 31 - 1) * 31 - 1) * 31);
        ward.certificate(2);
        same("43 the certificate ahead of them", ward.checksum(),
            (((((7L * 31 - 1) * 31 + 1) * 31 + 6) * 31 - 1) * 31 - 1) * 31);
        ward.paint(0, 1);
        same("43 painted", ward.checksum(), (((((7L * 31 + 1) * 31 + 1) * 31 + 6) * 31 - 1) * 31 - 1) * 31);
        ward.take(0);
        ward.take(1);
        same("43 ended", ward.checksum(), (((((7L * 31 + 1) * 31 + 1) * 31 + 6) * 31 + 1) * 31 + 0) * 31);
    }

    // Promise 44
    private static void isTrue() {
        Ramseyward ward = family(0, 1, 3, 6, 9, 63);
        same("44 a family", ward.isTrue(), true);
        ward.game('a', 5);
        ward.wish(0, 's', 2);
        ward.wish(1, 'p', 3);
        same("44 no colouring of four avoids", ward.avoiding(4), 0L);
        ward.certificate(6);
        String before = View.of(ward);
        same("44 a game", ward.isTrue(), true);
        same("44 changes nothing", View.of(ward), before);
        play(ward, 0, 9, 4);
        same("44 a game", ward.isTrue(), true);
        ward.colours(3);
        same("44 three", ward.isTrue(), true);
        same("44 nothing", new Ramseyward().isTrue(), true);
    }
}
