/** Runs of many calls, each answered by the program and by the naive ward; the draws come from a fixed rule. */
public final class CompareTest {
    private static final int RUNS = 300;
    /** So many calls are left at least as a step begins, which takes a few. */
    private static final int LEFT = 8;
    private static final char[] KINDS = {'k', 'c', 'p', 's', 'k', 'c', 'p', 's', 'x', 'K', 0};
    private static final char[] RULES = {'s', 'd', 'p', 'e', 's', 'd', 'p', 'e', 'm', 'S', 0};
    private static final char[] GAMES = {'m', 's', 'a', 'm', 's', 'a', 'p', 'M', 0};
    private static long seed = 20261119;
    private static Ramseyward ward;
    private static NaiveWard naive;
    private static int calls;

    private static int draw(int end) {
        seed = seed * 6364136223846793005L + 1442695040888963407L;
        return (int) ((seed >>> 33) % end);
    }

    /** Mostly within the bounds, at times beyond them. */
    private static int near(int low, int high) {
        int kind = draw(40);
        if (kind == 0) {
            return low - 1 - draw(3);
        }
        if (kind == 1) {
            return high + 1 + draw(3);
        }
        if (kind == 2) {
            int[] far = {Integer.MIN_VALUE, Integer.MAX_VALUE, -1, 64, 1 << 20};
            return far[draw(far.length)];
        }
        return low + draw(high - low + 1);
    }

    private static void both(String call, Check.Call got, Check.Call due) {
        calls++;
        Check.same("at most 512 calls on an object", calls <= Run.MOST_CALLS, true);
        Check.same(call, Check.answerOf(got), Check.answerOf(due));
    }

    public static void main(String[] args) {
        for (int run = 0; run < RUNS; run++) {
            ward = new Ramseyward();
            naive = new NaiveWard();
            calls = 0;
            int part = run % 5;
            while (calls + LEFT <= Run.MOST_CALLS) {
                int group = part == 4 || draw(8) == 0 ? draw(4) : part;
                String at = "run " + run + " call " + calls + ": ";
                callOne(group, at);
                both(at + "checksum", () -> ward.checksum(), () -> naive.checksum());
            }
        }
        Check.end("CompareTest");
    }

    private static void callOne(int group, String at) {
        if (group == 0) {
            callWishes(at);
        } else if (group == 1) {
            callPaper(at);
        } else if (group == 2) {
            callSumsAndFamily(at);
        } else {
            callGame(at);
        }
    }

    private static void callWishes(String at) {
        int points = near(2, 6);
        int few = near(2, 5);
        switch (draw(12)) {
            case 0:
                if (draw(4) == 0) {
                    int colours = near(2, 3);
                    both(at + "colours " + colours, () -> ward.colours(colours), () -> naive.colours(colours));
                }
                break;
            case 1:
            case 2:
                callWish(at);
                break;
            case 3:
                int colour = near(0, 2);
                both(at + "kind " + colour, () -> ward.kind(colour), () -> naive.kind(colour));
                break;
            case 4:
                int one = near(0, 5);
                int other = near(0, 5);
                both(at + "pair " + one + " " + other, () -> ward.pair(one, other), () -> naive.pair(one, other));
                break;
            case 5:
                both(at + "avoiding " + points, () -> ward.avoiding(points), () -> naive.avoiding(points));
                break;
            case 6:
                both(at + "cases " + points, () -> ward.cases(points), () -> naive.cases(points));
                break;
            case 7:
                both(at + "kinds " + few, () -> ward.kinds(few), () -> naive.kinds(few));
                break;
            case 8:
                both(at + "number", () -> ward.number(), () -> naive.number());
                break;
            case 9:
                both(at + "mostPairs " + points, () -> ward.mostPairs(points), () -> naive.mostPairs(points));
                break;
            case 10:
                both(at + "mostGraphs " + few, () -> ward.mostGraphs(few), () -> naive.mostGraphs(few));
                break;
            default:
                callChance(at);
        }
    }

    private static void callWish(String at) {
        int colour = near(0, naive.hues - 1);
        char kind = KINDS[draw(KINDS.length)];
        int size = near(2, 5);
        both(at + "wish " + colour + kind + size,
            () -> ward.wish(colour, kind, size), () -> naive.wish(colour, kind, size));
    }

    private static void callChance(String at) {
        int many = near(2, 12);
        int size = near(2, 5);
        String told = many + " " + size;
        both(at + "expectOver " + told, () -> ward.expectOver(many, size), () -> naive.expectOver(many, size));
        both(at + "expectUnder " + told, () -> ward.expectUnder(many, size), () -> naive.expectUnder(many, size));
        both(at + "isLikely " + told, () -> ward.isLikely(many, size), () -> naive.isLikely(many, size));
    }

    private static void callPaper(String at) {
        int points = near(2, 6);
        int pair = near(0, Math.max(1, naive.colours.length) - 1);
        switch (draw(14)) {
            case 0:
                if (draw(6) == 0) {
                    both(at + "certificate " + points,
                        () -> ward.certificate(points), () -> naive.certificate(points));
                }
                break;
            case 1:
                if (draw(2) == 0) {
                    both(at + "find " + points, () -> ward.find(points), () -> naive.find(points));
                }
                break;
            case 2:
            case 3:
            case 4:
            case 5:
                int colour = near(0, naive.hues - 1);
                both(at + "paint " + pair + " " + colour,
                    () -> ward.paint(pair, colour), () -> naive.paint(pair, colour));
                break;
            case 6:
                both(at + "colourOf " + pair, () -> ward.colourOf(pair), () -> naive.colourOf(pair));
                break;
            case 7:
                both(at + "holds", () -> ward.holds(), () -> naive.holds());
                break;
            case 8:
            case 9:
                both(at + "flaw", () -> ward.flaw(), () -> naive.flaw());
                break;
            case 10:
            case 11:
                int one = near(0, Math.max(1, naive.points) - 1);
                int other = near(0, Math.max(1, naive.points) - 1);
                both(at + "swap " + one + " " + other, () -> ward.swap(one, other), () -> naive.swap(one, other));
                break;
            case 12:
                both(at + "isFirst", () -> ward.isFirst(), () -> naive.isFirst());
                break;
            default:
                both(at + "paintedShare", () -> ward.paintedShare(), () -> naive.paintedShare());
                if (draw(4) == 0) {
                    callWish(at);
                }
        }
    }

    private static void callSumsAndFamily(String at) {
        char rule = RULES[draw(RULES.length)];
        int size = near(3, 5);
        int colours = near(2, 3);
        int elements = near(0, 63);
        String told = rule + " " + size + " " + colours + " ";
        switch (draw(20)) {
            case 0:
                both(at + "bound " + told, () -> ward.bound(rule, size, colours),
                    () -> naive.bound(rule, size, colours));
                break;
            case 1:
                int few = near(1, 12);
                both(at + "ways " + told + few, () -> ward.ways(rule, size, colours, few),
                    () -> naive.ways(rule, size, colours, few));
                break;
            case 2:
                int last = near(1, 30);
                int number = near(1, Math.max(1, Math.min(30, last)));
                both(at + "hueOf " + told + last + " " + number,
                    () -> ward.hueOf(rule, size, colours, last, number),
                    () -> naive.hueOf(rule, size, colours, last, number));
                break;
            case 3:
                int index = near(0, Math.max(1, naive.family.size()) - 1);
                both(at + "setAt " + index, () -> ward.setAt(index), () -> naive.setAt(index));
                break;
            case 4:
                both(at + "meets", () -> ward.meets(), () -> naive.meets());
                break;
            case 5:
                both(at + "chain", () -> ward.chain(), () -> naive.chain());
                break;
            case 6:
                both(at + "antichain", () -> ward.antichain(), () -> naive.antichain());
                break;
            case 7:
                both(at + "shadow", () -> ward.shadow(), () -> naive.shadow());
                break;
            case 8:
                both(at + "shatters " + elements, () -> ward.shatters(elements), () -> naive.shatters(elements));
                break;
            case 9:
                both(at + "dimension", () -> ward.dimension(), () -> naive.dimension());
                break;
            case 10:
                int sets = near(2, 5);
                both(at + "hasSunflower " + sets, () -> ward.hasSunflower(sets), () -> naive.hasSunflower(sets));
                break;
            case 11:
                both(at + "meanSize", () -> ward.meanSize(), () -> naive.meanSize());
                break;
            default:
                both(at + "set " + elements, () -> ward.set(elements), () -> naive.set(elements));
        }
    }

    private static void callGame(String at) {
        int pair = near(0, Math.max(1, naive.had.length) - 1);
        switch (draw(12)) {
            case 0:
                if (draw(5) == 0 || !naive.isOn) {
                    char rule = GAMES[draw(GAMES.length)];
                    int points = near(3, 5);
                    both(at + "game " + rule + points, () -> ward.game(rule, points), () -> naive.game(rule, points));
                }
                break;
            case 1:
            case 2:
            case 3:
                both(at + "take " + pair, () -> ward.take(pair), () -> naive.take(pair));
                break;
            case 4:
                Object best = Check.answerOf(() -> naive.best());
                if (best instanceof Integer) {
                    int good = (Integer) best;
                    both(at + "take " + good, () -> ward.take(good), () -> naive.take(good));
                }
                break;
            case 5:
                both(at + "turn", () -> ward.turn(), () -> naive.turn());
                break;
            case 6:
            case 7:
                both(at + "winner", () -> ward.winner(), () -> naive.winner());
                break;
            case 8:
            case 9:
                both(at + "best", () -> ward.best(), () -> naive.best());
                break;
            case 10:
                both(at + "holder " + pair, () -> ward.holder(pair), () -> naive.holder(pair));
                break;
            default:
                both(at + "isTrue", () -> ward.isTrue(), () -> naive.isTrue());
                if (draw(6) == 0) {
                    callWish(at);
                }
        }
    }
}
