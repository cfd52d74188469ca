import java.lang.reflect.InvocationTargetException;
import java.lang.reflect.Method;
import java.util.ArrayList;
import java.util.List;

/** A run of calls on a new object, read from a text that is written like the document's examples. */
final class Run {
    /** What calls behind these answer is free, so no run may ask for it. */
    static final int MOST_CALLS = 512;

    /** All that an object shows of its state; the last calls change it, so they come last. */
    private static final Run VIEW = new Run("checksum(); kind(0..2); avoiding(2..5); cases(2..5); mostPairs(6);"
        + " colourOf(0..14); paintedShare(); holds(); setAt(0..40); holder(0..9); turn(); winner(); best();"
        + " expectUnder(4, 4); wish(0..2, 'k', 3); colours(2)");

    private record Call(String name, List<Object> values, String due) {
        boolean isThrowing() {
            return due != null && due.startsWith("throws.");
        }

        @Override
        public String toString() {
            return name + values;
        }
    }

    private final List<Call> calls = new ArrayList<>();

    Run(String text) {
        for (String part : text.split(";")) {
            readCall(part.trim());
        }
    }

    // ---- reading ----

    private void readCall(String text) {
        int open = text.indexOf('(');
        int close = text.indexOf(')');
        String[] words = text.substring(0, open).split(" \\* ");
        int times = words.length == 1 ? 1 : Integer.parseInt(words[0]);
        List<List<Object>> all = argumentsOf(text.substring(open + 1, close));
        String[] dues = duesOf(text.substring(close + 1));
        if (dues.length != 1 && dues.length != all.size()) {
            throw new IllegalArgumentException(dues.length + " answers for " + all.size() + " calls: " + text);
        }
        for (int time = 0; time < times; time++) {
            for (int at = 0; at < all.size(); at++) {
                calls.add(new Call(words[words.length - 1], all.get(at), dues[dues.length == 1 ? 0 : at]));
            }
        }
    }

    /** No answer is due where none is written. */
    private static String[] duesOf(String text) {
        return text.isEmpty() ? new String[] {null} : text.replaceFirst(" = ", "").split(" ");
    }

    private static List<List<Object>> argumentsOf(String text) {
        List<List<Object>> all = new ArrayList<>();
        all.add(List.of());
        if (!text.isEmpty()) {
            for (String argument : text.split(",")) {
                all = withEach(all, valuesOf(argument.trim()));
            }
        }
        return all;
    }

    private static List<List<Object>> withEach(List<List<Object>> heads, List<Object> values) {
        List<List<Object>> all = new ArrayList<>();
        for (List<Object> head : heads) {
            for (Object value : values) {
                List<Object> longer = new ArrayList<>(head);
                longer.add(value);
                all.add(longer);
            }
        }
        return all;
    }

    private static List<Object> valuesOf(String argument) {
        List<Object> values = new ArrayList<>();
        for (String part : argument.split("\\|")) {
            if (part.startsWith("'")) {
                values.add(part.charAt(1));
            } else if (part.startsWith("#")) {
                values.add((char) Integer.parseInt(part.substring(1)));
            } else {
                String[] ends = part.split("\\.\\.");
                for (int value = numberOf(ends[0]); value < numberOf(ends[ends.length - 1]); value++) {
                    values.add(value);
                }
                values.add(numberOf(ends[ends.length - 1]));
            }
        }
        return values;
    }

    private static int numberOf(String word) {
        return switch (word) {
            case "MIN" -> Integer.MIN_VALUE;
            case "MAX" -> Integer.MAX_VALUE;
            default -> Integer.parseInt(word);
        };
    }

    // ---- calling ----

    private static String answerOf(Ramseyward ward, Call call) {
        for (Method method : Ramseyward.class.getMethods()) {
            if (method.getName().equals(call.name()) && method.getParameterCount() == call.values().size()) {
                return answerOf(ward, method, call.values().toArray());
            }
        }
        throw new IllegalArgumentException("no such method: " + call);
    }

    private static String answerOf(Ramseyward ward, Method method, Object[] values) {
        try {
            Object answer = method.invoke(ward, values);
            return answer instanceof Character ? "'" + answer + "'" : String.valueOf(answer);
        } catch (InvocationTargetException thrown) {
            return "throws." + thrown.getCause().getClass().getSimpleName();
        } catch (IllegalAccessException wrong) {
            throw new IllegalStateException(wrong);
        }
    }

    private List<String> answersOf(Ramseyward ward) {
        List<String> answers = new ArrayList<>();
        for (Call call : calls) {
            answers.add(answerOf(ward, call));
        }
        return answers;
    }

    /** Checks the answers up to the first wrong one, and that the object is behind each call that throws as it would be without this call. */
    void check(String what) {
        Check.same(what + " has at most 512 calls", calls.size() <= MOST_CALLS, true);
        List<String> answers = answersOf(new Ramseyward());
        for (int at = 0; at < calls.size(); at++) {
            if (!isDue(what + ": " + calls.get(at), calls.get(at), answers.get(at))) {
                return;
            }
            if (calls.get(at).isThrowing()) {
                Check.same(what + ": " + calls.get(at) + " has changed nothing", viewBehind(at, true), viewBehind(at, false));
            }
        }
    }

    private static boolean isDue(String what, Call call, String answer) {
        if (call.due() != null) {
            return Check.same(what, answer, call.due());
        }
        return Check.same(what + " throws", answer.startsWith("throws."), false);
    }

    private List<String> viewBehind(int last, boolean isWithThrowing) {
        Ramseyward ward = new Ramseyward();
        int made = 0;
        for (Call call : calls.subList(0, last + 1)) {
            if (isWithThrowing || !call.isThrowing()) {
                answerOf(ward, call);
                made++;
            }
        }
        if (made + VIEW.calls.size() > MOST_CALLS) {
            throw new IllegalArgumentException("too many calls ahead of one that throws");
        }
        return VIEW.answersOf(ward);
    }
}
