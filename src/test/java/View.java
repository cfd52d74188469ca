/** All that a ward shows of its state, as a text. */
final class View {
    private View() {
    }

    static String of(Ramseyward ward) {
        StringBuilder view = new StringBuilder();
        add(view, ward.checksum());
        for (int colour = 0; colour < 3; colour++) {
            int at = colour;
            add(view, Check.answerOf(() -> ward.kind(at)));
        }
        add(view, ward.avoiding(4));
        add(view, ward.avoiding(5));
        add(view, ward.cases(5));
        add(view, ward.mostPairs(6));
        for (int pair = 0; pair < 15; pair++) {
            int at = pair;
            add(view, Check.answerOf(() -> ward.colourOf(at)));
            add(view, Check.answerOf(() -> ward.holder(at)));
        }
        add(view, Check.answerOf(ward::paintedShare));
        add(view, Check.answerOf(ward::flaw));
        for (int index = 0; index < 41; index++) {
            int at = index;
            add(view, Check.answerOf(() -> ward.setAt(at)));
        }
        add(view, Check.answerOf(ward::turn));
        add(view, Check.answerOf(ward::winner));
        add(view, Check.answerOf(ward::best));
        add(view, ward.expectUnder(6, 4));
        return view.toString();
    }

    private static void add(StringBuilder view, Object part) {
        view.append(part).append(' ');
    }
}
