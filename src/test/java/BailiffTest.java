/** Promises 40 to 46: tickets, poachers' lines, rounds, fines and the fund. */
public final class BailiffTest {
    private static final Class<IndexOutOfBoundsException> INDEX = IndexOutOfBoundsException.class;
    private static final Class<UnsupportedOperationException> UNSUPPORTED = UnsupportedOperationException.class;

    public static void main(String[] args) {
        ticket();
        poach();
        round();
        owesAndPay();
        amnesty();
        fund();
        Check.end();
    }

    private static void ticket() {
        Pegdraw x = Scene.bank(2, 0, 5, 5);
        Check.due("without one", x.ticket(0, true), false);
        Check.due("with one", x.ticket(0, true), true);
        Check.due("with one", x.ticket(0, false), true);
        Check.due("without one", x.ticket(0, false), false);
        Check.due("the other's", x.ticket(1, false), false);
        Check.refused("ticket(2)", x, INDEX, () -> x.ticket(2, true) ? 1 : 0);
        Check.refused("ticket(-1)", x, INDEX, () -> x.ticket(-1, true) ? 1 : 0);
    }

    private static void poach() {
        Pegdraw x = Scene.bank(3, 0);
        Check.due("one", x.poach(1), 1);
        Check.refused("another there", x, UNSUPPORTED, () -> x.poach(1));
        Check.due("two", x.poach(0), 2);
        Check.refused("poach(3)", x, INDEX, () -> x.poach(3));
        Check.refused("poach(-1)", x, INDEX, () -> x.poach(-1));
        x.round(1);
        Check.due("two again", x.poach(2), 2);
        Check.due("three", x.poach(1), 3);
    }

    private static void round() {
        Pegdraw x = Scene.bank(3, 0, 5, 5);
        Check.refused("round(3)", x, INDEX, () -> x.round(3));
        Check.refused("round(-1)", x, INDEX, () -> x.round(-1));
        Check.due("nobody has a peg", x.round(0), 0);
        Scene.draw(x, 3, new int[] {0, 2}, 0);
        x.ticket(1, true);
        Check.due("one fined", x.round(0), 1);
        Check.due("nobody there", x.round(1), 0);
        Check.due("one with a ticket", x.round(2), 0);
        x.poach(0);
        Check.due("an angler and a line", x.round(0), 2);
        Check.due("the line is gone", x.round(0), 1);
        Check.due("fined thrice", x.owes(0), 60);
        Check.due("fund", x.fund(), 50);
        Check.due("not fined", x.owes(1), 0);
        x.ticket(1, false);
        Scene.end(x);
        Check.due("before the scales", x.round(2), 1);
        Scene.weighAll(x, 2);
        Check.due("no pegs behind the match", x.round(2), 0);
        Check.due("owed for one round", x.owes(1), 20);
    }

    private static void owesAndPay() {
        Pegdraw x = Scene.bank(2, 0, 5, 5);
        Check.refused("owes(2)", x, INDEX, () -> x.owes(2));
        Check.refused("owes(-1)", x, INDEX, () -> x.owes(-1));
        Check.refused("pay(2)", x, INDEX, () -> x.pay(2));
        Check.refused("pay(-1)", x, INDEX, () -> x.pay(-1));
        Check.refused("pay of nothing", x, UNSUPPORTED, () -> x.pay(0));
        Scene.draw(x, 2, new int[] {0, 1}, 0);
        x.round(0);
        x.round(0);
        x.round(1);
        Check.due("owes", x.owes(0), 40);
        Check.due("pays", x.pay(0), 40);
        Check.due("owes no more", x.owes(0), 0);
        Check.refused("pay again", x, UNSUPPORTED, () -> x.pay(0));
        Check.due("the other owes", x.owes(1), 20);
        Check.due("fund", x.fund(), 40);
    }

    private static void amnesty() {
        Pegdraw x = Scene.bank(2, 0, 5, 5);
        Scene.draw(x, 2, new int[] {0, 1}, 0);
        x.round(0);
        x.round(1);
        x.round(1);
        Check.due("all that was owed", x.amnesty(), 60);
        Check.due("nothing more", x.amnesty(), 0);
        Check.due("owes", x.owes(0) + x.owes(1), 0);
        Check.due("not into the fund", x.fund(), 0);
        Check.refused("pay of nothing", x, UNSUPPORTED, () -> x.pay(1));
    }

    private static void fund() {
        Pegdraw x = Scene.bank(2, 0, 9, 9);
        Check.due("fund at first", x.fund(), 0);
        Scene.draw(x, 2, new int[] {0, 1}, 0);
        x.poach(0);
        x.poach(1);
        x.round(0);
        x.round(1);
        x.pay(0);
        Check.due("two lines and a fine", x.fund(), 120);
        x.stake(0, 10);
        Scene.end(x);
        Check.due("before the results", x.fund(), 120);
        Scene.weighAll(x, 2);
        Check.due("a tenth of the hat", x.fund(), 121);
    }
}
