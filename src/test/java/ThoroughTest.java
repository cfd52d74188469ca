/** Small ranges of arguments in full, answered by the program and by the naive ward. */
public final class ThoroughTest {
    private static final String[] WISHES = {
        "k3", "k4", "k5", "c3", "c4", "c5", "p3", "p4", "p5", "s2", "s3", "s4", "s5"};
    private static final String[] RULES = {"s0", "d-1", "p3", "p4", "p5", "e2", "e3", "e4", "e5"};

    private static Ramseyward ward;
    private static NaiveWard naive;
    private static int calls;

    private static void both(String call, Check.Call got, Check.Call due) {
        calls++;
        Check.same("at most 512 calls on an object", calls <= Run.MOST_CALLS, true);
        Check.same(call, Check.answerOf(got), Check.answerOf(due));
    }

    private static void begin(int colours) {
        ward = new Ramseyward();
        naive = new NaiveWard();
        calls = 0;
        both("colours " + colours, () -> ward.colours(colours), () -> naive.colours(colours));
    }

    private static void tell(int colour, String wish) {
        char kind = wish.charAt(0);
        int size = wish.charAt(1) - '0';
        both("wish " + colour + wish, () -> ward.wish(colour, kind, size), () -> naive.wish(colour, kind, size));
    }

    public static void main(String[] args) {
        for (String one : WISHES) {
            checkMost(one);
            checkGames(one);
            for (String other : WISHES) {
                checkTwo(one, other);
            }
        }
        for (int at = 0; at < WISHES.length; at++) {
            checkThree(WISHES[at], WISHES[(at * 5 + 3) % 13], WISHES[(at * 7 + 1) % 13]);
        }
        checkThree("k5", "k5", "k5");
        checkThree("p3", "p3", "s2");
        for (String rule : RULES) {
            for (int colours = 2; colours <= 3; colours++) {
                checkRule(rule.charAt(0), Integer.parseInt(rule.substring(1)), colours);
            }
        }
        for (int colours = 2; colours <= 3; colours++) {
            begin(colours);
            checkChances();
        }
        checkFamilies();
        Check.end("ThoroughTest");
    }

    private static void checkTree(String told, int most) {
        for (int points = 2; points <= most; points++) {
            int p = points;
            both(told + "avoiding " + p, () -> ward.avoiding(p), () -> naive.avoiding(p));
            both(told + "cases " + p, () -> ward.cases(p), () -> naive.cases(p));
            both(told + "kinds " + p, () -> ward.kinds(p), () -> naive.kinds(p));
            both(told + "find " + p, () -> ward.find(p), () -> naive.find(p));
            both(told + "checksum", () -> ward.checksum(), () -> naive.checksum());
        }
        both(told + "isTrue", () -> ward.isTrue(), () -> naive.isTrue());
    }

    private static void checkTwo(String one, String other) {
        begin(2);
        tell(0, one);
        tell(1, other);
        String told = one + " " + other + " ";
        checkTree(told, 5);
        both(told + "number", () -> ward.number(), () -> naive.number());
        both(told + "find 6", () -> ward.find(6), () -> naive.find(6));
    }

    private static void checkThree(String one, String other, String third) {
        begin(3);
        tell(0, one);
        tell(1, other);
        tell(2, third);
        String told = one + " " + other + " " + third + " ";
        checkTree(told, 4);
        both(told + "avoiding 5", () -> ward.avoiding(5), () -> naive.avoiding(5));
        both(told + "cases 5", () -> ward.cases(5), () -> naive.cases(5));
        both(told + "find 5", () -> ward.find(5), () -> naive.find(5));
        both(told + "number", () -> ward.number(), () -> naive.number());
    }

    private static void checkMost(String wish) {
        begin(2);
        tell(0, wish);
        for (int points = 2; points <= 6; points++) {
            int p = points;
            both(wish + " mostPairs " + p, () -> ward.mostPairs(p), () -> naive.mostPairs(p));
            both(wish + " mostGraphs " + p, () -> ward.mostGraphs(p), () -> naive.mostGraphs(p));
        }
    }

    private static void checkGames(String wish) {
        for (char rule : "msa".toCharArray()) {
            begin(2);
            tell(0, wish);
            checkGame(wish, rule, 3, 1, 0);
            checkGame(wish, rule, 4, 5, 2);
            for (int first = 0; first < 10; first++) {
                begin(2);
                tell(0, wish);
                checkGame(wish, rule, 5, 3, first);
                checkGame(wish, rule, 5, 7, first);
            }
        }
    }

    /** A game with pairs taken at even steps, and now and then the best one instead. */
    private static void checkGame(String wish, char rule, int points, int stride, int first) {
        String told = wish + " game " + rule + points + " by " + stride + " from " + first;
        both(told, () -> ward.game(rule, points), () -> naive.game(rule, points));
        int pair = first;
        for (int step = 0; naive.isOn; step++) {
            both(told + " winner", () -> ward.winner(), () -> naive.winner());
            both(told + " best", () -> ward.best(), () -> naive.best());
            while (naive.had[pair] >= 0) {
                pair = (pair + stride) % naive.had.length;
            }
            int next = (step + first) % 4 == 3 ? naive.best() : pair;
            both(told + " take " + next, () -> ward.take(next), () -> naive.take(next));
        }
        both(told + " winner", () -> ward.winner(), () -> naive.winner());
        both(told + " checksum", () -> ward.checksum(), () -> naive.checksum());
    }

    private static void checkRule(char rule, int size, int colours) {
        begin(2);
        String told = "" + rule + size + " " + colours + " ";
        both(told + "bound", () -> ward.bound(rule, size, colours), () -> naive.bound(rule, size, colours));
        for (int last = 1; last <= 30; last++) {
            int l = last;
            if (last <= 12) {
                both(told + "ways " + l, () -> ward.ways(rule, size, colours, l),
                    () -> naive.ways(rule, size, colours, l));
            }
            for (int number = 1; number <= last; number++) {
                int n = number;
                both(told + "hueOf " + l + " " + n, () -> ward.hueOf(rule, size, colours, l, n),
                    () -> naive.hueOf(rule, size, colours, l, n));
            }
        }
    }

    private static void checkChances() {
        for (int points = 2; points <= 12; points++) {
            for (int size = 2; size <= 5; size++) {
                int p = points;
                int s = size;
                String told = naive.hues + " chances " + p + " " + s;
                both(told + " over", () -> ward.expectOver(p, s), () -> naive.expectOver(p, s));
                both(told + " under", () -> ward.expectUnder(p, s), () -> naive.expectUnder(p, s));
                both(told + " likely", () -> ward.isLikely(p, s), () -> naive.isLikely(p, s));
            }
        }
    }

    /** Families that grow to 40 sets and shrink again, in many orders. */
    private static void checkFamilies() {
        for (int step = 1; step < 64; step += 2) {
            begin(2);
            for (int at = 0; at < 52; at++) {
                int elements = (at < 44 ? at : at - 44) * step + step / 3 & 63;
                both("family " + step + " set " + elements, () -> ward.set(elements), () -> naive.set(elements));
                if ((at + step / 2) % 2 == 0) {
                    checkFamily("family " + step + " at " + at + " ", at);
                }
            }
        }
    }

    private static void checkFamily(String told, int at) {
        both(told + "checksum", () -> ward.checksum(), () -> naive.checksum());
        both(told + "meets", () -> ward.meets(), () -> naive.meets());
        both(told + "shadow", () -> ward.shadow(), () -> naive.shadow());
        both(told + "dimension", () -> ward.dimension(), () -> naive.dimension());
        both(told + "meanSize", () -> ward.meanSize(), () -> naive.meanSize());
        both(told + "shatters", () -> ward.shatters(at), () -> naive.shatters(at));
        both(told + "chain", () -> ward.chain(), () -> naive.chain());
        both(told + "antichain", () -> ward.antichain(), () -> naive.antichain());
        for (int sets = 2; sets <= 5; sets++) {
            int many = sets;
            both(told + "hasSunflower " + many, () -> ward.hasSunflower(many), () -> naive.hasSunflower(many));
        }
        both(told + "isTrue", () -> ward.isTrue(), () -> naive.isTrue());
    }
}
