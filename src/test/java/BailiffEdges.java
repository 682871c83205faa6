/** The terms of bailiffs, and promises 40 to 46. */
final class BailiffEdges {
    private BailiffEdges() {
    }

    static void run() {
        ticketOfNobody();
        noTicketAtFirst();
        poachInNoSwim();
        poachTwice();
        poachEverywhere();
        roundInNoSwim();
        fineOfWhosePegItIs();
        noFineWithATicket();
        roundTakesALine();
        owesOfNobody();
        payOfNobody();
        payOfNothing();
        payIntoTheFund();
        amnestyOfNothing();
        amnestyOfAll();
        fundOfAll();
    }

    private static long ticket(Pegdraw x, int angler, boolean is) {
        return x.ticket(angler, is) ? 1 : 0;
    }

    private static void ticketOfNobody() {
        Doc.says("Promise 40", "Throws `IndexOutOfBoundsException` if there is no such angler");
        Edge.anglers("ticket", (x, angler) -> ticket(x, angler, true));
        Edge.anglers("no ticket", (x, angler) -> ticket(x, angler, false));
        Edge.inAllPhases("ticket", (x, angler) -> ticket(x, angler, true));
    }

    private static void noTicketAtFirst() {
        Doc.says("Promise 13", "Adds an angler, without a ticket.");
        Pegdraw x = Edge.matchOf(8);
        for (int i = 0; i < 8; i++) {
            Check.due("ticket at first", x.ticket(i, true), false);
            Check.due("ticket", x.ticket(i, true), true);
            Check.due("ticket still", x.ticket(i, false), true);
            Check.due("no ticket", x.ticket(i, false), false);
        }
    }

    private static void poachInNoSwim() {
        Doc.says("Promise 41", "Throws `IndexOutOfBoundsException` if there is no such swim");
        Edge.swims("poach", Pegdraw::poach);
        Edge.inAllPhases("poach", Pegdraw::poach);
    }

    private static void poachTwice() {
        Doc.says("Promise 41", "Throws `UnsupportedOperationException` if there is one");
        Pegdraw x = Scene.bank(3, 0);
        x.poach(0);
        Check.unsupported("poach again", x, () -> x.poach(0));
        Edge.taken("poach beside", x, 1, Pegdraw::poach);
        x.round(0);
        Edge.taken("poach behind a round", x, 0, Pegdraw::poach);
        Check.unsupported("poach again", x, () -> x.poach(0));
    }

    private static void poachEverywhere() {
        Doc.says("Promise 41", "Lays a poacher's line.");
        Pegdraw x = Scene.bank(10, 0);
        for (int i = 0; i < 10; i++) {
            Check.due("poachers' lines", x.poach(9 - i), i + 1);
        }
    }

    private static void roundInNoSwim() {
        Doc.says("Promise 42", "Throws `IndexOutOfBoundsException` if there is no such swim");
        Edge.swims("round", Pegdraw::round);
        Edge.inAllPhases("round", Pegdraw::round);
    }

    private static void fineOfWhosePegItIs() {
        Doc.says("Terms", "A round at a swim fines each angler whose peg it is 20, without a ticket");
        for (char phase : Edge.PHASES.toCharArray()) {
            Pegdraw x = Edge.inPhase(phase);
            int due = phase == 'n' ? 0 : 1;
            Check.due("fined in phase " + phase, x.round(1), due);
            Check.due("fined beside in phase " + phase, x.round(2), 0);
            Check.due("owed", x.owes(1), 20 * due);
            Check.due("owed by the other", x.owes(0), 0);
        }
        Pegdraw over = Edge.over();
        Check.due("fined behind the match", over.round(1), 0);
        Check.due("fines are not in the fund", over.fund(), 0);
    }

    private static void noFineWithATicket() {
        Doc.says("Terms", "whose peg it is 20, without a ticket");
        Pegdraw x = Edge.inPhase('d');
        x.ticket(1, true);
        Check.due("with a ticket", x.round(1), 0);
        Check.due("owed", x.owes(1), 0);
        x.ticket(1, false);
        Check.due("without it", x.round(1), 1);
        x.ticket(1, true);
        Check.due("what is owed is owed with a ticket, too", x.owes(1), 20);
    }

    private static void roundTakesALine() {
        Doc.says("Terms", "and takes a poacher's line away, which puts 50 into the fund");
        Pegdraw x = Edge.inPhase('d');
        for (int i = 0; i < 3; i++) {
            x.poach(i);
        }
        Check.due("an angler and a line", x.round(0), 2);
        Check.due("fund", x.fund(), 50);
        Check.due("a line alone", x.round(2), 1);
        Check.due("fund", x.fund(), 100);
        Check.due("nothing", x.round(2), 0);
        Check.due("fund", x.fund(), 100);
        x.stock(2, 0, 90);
        x.stock(1, 0, 90);
        x.pass(60);
        Check.due("nothing taken where the line is gone", x.state(0), 'w');
        Check.due("taken where it lies", x.state(1), 't');
    }

    private static void owesOfNobody() {
        Doc.says("Promise 43", "Throws `IndexOutOfBoundsException` if there is no such angler");
        Edge.anglers("owes", Pegdraw::owes);
        Edge.inAllPhases("owes", Pegdraw::owes);
    }

    private static void payOfNobody() {
        Doc.says("Promise 44", "Throws `IndexOutOfBoundsException` if there is no such angler");
        Edge.numbers("pay", anglers -> {
            Pegdraw x = Edge.matchOf(anglers);
            for (int i = 0; i < 10; i++) {
                x.round(i);
            }
            return x;
        }, 2, 8, Pegdraw::pay);
        Pegdraw x = Edge.inPhase('n');
        Check.index("pay of nobody, where nothing is owed", x, () -> x.pay(2));
    }

    private static void payOfNothing() {
        Doc.says("Promise 44", "Throws `UnsupportedOperationException` if nothing is owed");
        Edge.onlyIn("", "pay", Pegdraw::pay);
        Pegdraw x = Edge.inPhase('d');
        x.round(0);
        Check.unsupported("pay of the other", x, () -> x.pay(1));
        x.pay(0);
        Check.unsupported("pay again", x, () -> x.pay(0));
        x.round(0);
        x.amnesty();
        Check.unsupported("pay behind an amnesty", x, () -> x.pay(0));
    }

    private static void payIntoTheFund() {
        Doc.says("Terms", "Fines are owed till they are paid, into the fund, or an amnesty.");
        Pegdraw x = Edge.inPhase('d');
        for (int i = 1; i <= 5; i++) {
            x.round(0);
            Check.due("owed", x.owes(0), 20 * i);
        }
        Scene.end(x);
        Scene.weighAll(x, 2);
        Check.due("owed behind the match", x.owes(0), 100);
        Check.due("paid", x.pay(0), 100);
        Check.due("fund", x.fund(), 100);
        Check.due("owed then", x.owes(0), 0);
    }

    private static void amnestyOfNothing() {
        Doc.says("Promise 45", "Returns what was owed in all.");
        Check.due("amnesty of nobody", new Pegdraw().amnesty(), 0);
        for (char phase : Edge.PHASES.toCharArray()) {
            Check.due("amnesty in phase " + phase, Edge.inPhase(phase).amnesty(), 0);
        }
    }

    private static void amnestyOfAll() {
        Doc.says("Terms", "or an amnesty");
        Pegdraw x = Edge.matchOf(8);
        for (int i = 0; i < 10; i++) {
            x.round(i);
        }
        x.round(x.pegOf(7));
        Check.due("eight fines, and one more", x.amnesty(), 180);
        for (int i = 0; i < 8; i++) {
            Check.due("owed then", x.owes(i), 0);
        }
        Check.due("fund", x.fund(), 0);
        Check.due("amnesty again", x.amnesty(), 0);
        x.round(x.pegOf(0));
        Check.due("fines go on", x.amnesty(), 20);
    }

    private static void fundOfAll() {
        Doc.says("Promise 46", "Returns the cents.");
        Pegdraw x = Edge.inPhase('d');
        Check.due("fund", x.fund(), 0);
        x.poach(2);
        x.round(2);
        x.round(0);
        x.pay(0);
        x.stake(0, 15);
        Scene.end(x);
        Scene.weighAll(x, 2);
        Check.due("a line, a fine and the rest of the hat", x.fund(), 50 + 20 + 2);
    }
}
