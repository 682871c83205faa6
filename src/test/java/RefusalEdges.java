import java.util.ArrayList;
import java.util.List;
import java.util.NoSuchElementException;

/** A call that throws changes nothing: all wrong calls on a bank, whose twin is spared them, and both go on alike. */
final class RefusalEdges {
    private static final List<Class<?>> OF_THE_DOCUMENT = List.of(IllegalArgumentException.class,
            IndexOutOfBoundsException.class, UnsupportedOperationException.class, IllegalStateException.class,
            NoSuchElementException.class, ArithmeticException.class);
    private static final int[] NUMBERS = {Integer.MIN_VALUE, -301, -51, -2, -1, 0, 1, 2, 3, 7, 8, 9, 10, 20, 21, 50, 51,
            59, 60, 90, 91, 120, 121, 300, 301, 9999, Integer.MAX_VALUE};

    private RefusalEdges() {
    }

    interface WrongCall {
        long on(Pegdraw bank, int one, int other);
    }

    static void run() {
        for (char phase : Edge.PHASES.toCharArray()) {
            refusedCallsChangeNothing(phase);
        }
        answersNeedNoChange();
    }

    /** Three swims, two anglers, fish in the water, in a net, eaten and dead, a stake, a fine and a poacher's line. */
    private static Pegdraw rich(char phase) {
        Pegdraw x = Scene.bank(3, 1, 9, 8);
        x.stock(0, 0, 40);
        x.stock(1, 1, 30);
        x.stock(2, 2, 50);
        x.stock(2, 3, 60);
        x.eat(2);
        x.setError(0, 5);
        x.poach(1);
        if (phase != 'n') {
            Scene.draw(x, 3, new int[] {0, 1}, 0);
            x.stake(0, 7);
            x.round(0);
        }
        if (phase == 'm' || phase == 'e') {
            x.begin(12);
            x.cast(0, 0);
            Scene.land(x, 0);
            x.cast(1, 1);
        }
        if (phase == 'e') {
            Scene.end(x);
            x.weigh(1, 0);
            x.claim(1);
        }
        return x;
    }

    private static void refusedCallsChangeNothing(char phase) {
        Doc.says("Terms", "A method that throws an exception changes nothing.");
        Pegdraw x = rich(phase);
        Pegdraw twin = rich(phase);
        String held = Held.by(twin);
        Check.isTrue("twins", held.equals(Held.by(x)));
        int refused = 0;
        for (WrongCall call : calls()) {
            refused += refuseAll(x, call, phase, held);
        }
        Check.isTrue("many calls are refused in phase " + phase, refused > 5000);
        Check.isTrue("nothing is changed by them", held.equals(Held.by(x)));
        goOn(x);
        goOn(twin);
        Check.isTrue("both go on alike", Held.by(twin).equals(Held.by(x)));
    }

    /** Which calls are refused is found out on a spare bank, which is made anew where a call that is taken changed it. */
    private static int refuseAll(Pegdraw x, WrongCall call, char phase, String held) {
        Pegdraw spare = rich(phase);
        int refused = 0;
        for (int one : NUMBERS) {
            for (int other : NUMBERS) {
                boolean isRefused = isRefused(spare, call, one, other);
                boolean isChanged = !held.equals(Held.by(spare));
                Check.isTrue("a refused call with " + one + ", " + other + " changed the bank", !isRefused || !isChanged);
                if (isRefused) {
                    Check.isTrue("it is refused again", isRefused(x, call, one, other));
                    refused++;
                }
                spare = isChanged ? rich(phase) : spare;
            }
        }
        return refused;
    }

    private static boolean isRefused(Pegdraw bank, WrongCall call, int one, int other) {
        try {
            call.on(bank, one, other);
            return false;
        } catch (RuntimeException e) {
            Check.isTrue("an exception of the document: " + e, OF_THE_DOCUMENT.contains(e.getClass()));
            return true;
        }
    }

    private static List<WrongCall> calls() {
        List<WrongCall> calls = new ArrayList<>();
        calls.add(Pegdraw::swim);
        calls.add((x, one, other) -> x.open(one, other > 0) ? 1 : 0);
        calls.add((x, one, other) -> x.setFlow(one));
        calls.add((x, one, other) -> x.setWarmth(one));
        calls.add((x, one, other) -> x.seed(one));
        calls.add((x, one, other) -> x.stock(one, other, 30));
        calls.add((x, one, other) -> x.stock(one, 0, other));
        calls.add(Pegdraw::setLeast);
        calls.add((x, one, other) -> x.of(one, (char) ('k' + other)));
        calls.add((x, one, other) -> x.state(one));
        calls.add((x, one, other) -> x.fishIn(one));
        calls.add((x, one, other) -> x.eat(one));
        calls.add((x, one, other) -> x.angler(one));
        calls.add((x, one, other) -> x.draw());
        calls.add((x, one, other) -> x.pegOf(one));
        calls.add(Pegdraw::stake);
        calls.add((x, one, other) -> x.begin(one));
        calls.add((x, one, other) -> x.cast(one, other) ? 1 : 0);
        calls.add((x, one, other) -> x.reel(one));
        calls.add((x, one, other) -> x.lineOf(one));
        calls.add(Pegdraw::feed);
        calls.add((x, one, other) -> x.feedIn(one));
        calls.add((x, one, other) -> x.pass(one));
        addLateCalls(calls);
        return calls;
    }

    private static void addLateCalls(List<WrongCall> calls) {
        calls.add((x, one, other) -> x.account(one, (char) ('l' + other)));
        calls.add((x, one, other) -> x.netWeight(one));
        calls.add(Pegdraw::setError);
        calls.add(Pegdraw::weigh);
        calls.add((x, one, other) -> x.claim(one));
        calls.add((x, one, other) -> x.slip(one));
        calls.add(Pegdraw::points);
        calls.add((x, one, other) -> x.winner(one));
        calls.add((x, one, other) -> x.total(one));
        calls.add((x, one, other) -> x.table(one));
        calls.add((x, one, other) -> x.won(one));
        calls.add((x, one, other) -> x.ticket(one, other > 0) ? 1 : 0);
        calls.add((x, one, other) -> x.poach(one));
        calls.add((x, one, other) -> x.round(one));
        calls.add((x, one, other) -> x.owes(one));
        calls.add((x, one, other) -> x.pay(one));
        calls.add((x, one, other) -> x.mass((char) ('s' + other)));
    }

    private static void goOn(Pegdraw x) {
        if (x.phase() == 'n') {
            x.draw();
        }
        Scene.end(x);
        x.weigh(0, 0);
        if (x.phase() == 'e') {
            x.weigh(1, 0);
        }
        Check.due("the match is over", x.phase(), 'n');
    }

    /** What only tells of the bank leaves it as it was when it answers, too. */
    private static void answersNeedNoChange() {
        Doc.says("Promise 51", "Returns whether all of this holds.");
        for (char phase : Edge.PHASES.toCharArray()) {
            Pegdraw x = rich(phase);
            String held = Held.by(x);
            x.isSound();
            x.checksum();
            x.waterShare();
            x.meanLength();
            x.mass('s');
            x.table(1);
            x.total(0);
            x.fishIn(0);
            x.feedIn(1);
            x.of(0, 'h');
            x.state(1);
            x.account(0, 'l');
            x.netWeight(0);
            x.owes(0);
            x.won(1);
            x.fund();
            x.pot();
            x.matches();
            x.crossed();
            x.minute();
            x.phase();
            Check.isTrue("what is asked for in phase " + phase + " changes nothing", held.equals(Held.by(x)));
        }
    }
}
