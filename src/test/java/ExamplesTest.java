/** The examples of the document. */
public final class ExamplesTest {
    public static void main(String[] args) {
        Ramseyward ward = new Ramseyward();
        Check.same("number()", ward.number(), 6);
        Check.same("find(5)", ward.find(5), 0);
        Check.same("holds()", ward.holds(), true);
        Check.same("paint(0, 1)", ward.paint(0, 1), 10);
        Check.same("holds()", ward.holds(), false);

        ward = new Ramseyward();
        Check.same("bound('s', 0, 2)", ward.bound('s', 0, 2), 5);
        Check.same("set(3)", ward.set(3), 1);
        Check.same("set(5)", ward.set(5), 2);
        Check.same("meets()", ward.meets(), true);
        Check.same("antichain()", ward.antichain(), 2);

        ward = new Ramseyward();
        Check.same("game('m', 3)", ward.game('m', 3), 3);
        Check.same("winner()", ward.winner(), 1);
        Check.same("best()", ward.best(), 0);
        Check.same("take(1)", ward.take(1), -1);
        Check.same("turn()", ward.turn(), 1);
        Check.end("ExamplesTest");
    }
}
