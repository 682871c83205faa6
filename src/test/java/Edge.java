import java.util.function.IntFunction;
import java.util.function.Supplier;

/** Calls at the ends of what they take: the ends are taken, what lies next to them is refused. */
final class Edge {
    static final String PHASES = "ndme";

    private Edge() {
    }

    interface Call {
        long on(Pegdraw bank, int number);
    }

    interface LetterCall {
        long on(Pegdraw bank, char letter);
    }

    static void range(String what, Supplier<Pegdraw> banks, int from, int to, Call call) {
        int[] outside = {from - 1, to + 1, Integer.MIN_VALUE, Integer.MAX_VALUE};
        for (int number : outside) {
            Pegdraw bank = banks.get();
            Check.argument(what + " " + number, bank, () -> call.on(bank, number));
        }
        taken(what, banks.get(), from, call);
        taken(what, banks.get(), to, call);
    }

    /** Banks are made with none, and with one, a few and the most of what is numbered from 0. */
    static void numbers(String what, IntFunction<Pegdraw> banks, int few, int most, Call call) {
        int[] counts = {0, few, most};
        for (int count : counts) {
            int[] outside = {-1, count, Integer.MIN_VALUE, Integer.MAX_VALUE};
            for (int number : outside) {
                Pegdraw bank = banks.apply(count);
                Check.index(what + " " + number + " of " + count, bank, () -> call.on(bank, number));
            }
            if (count > 0) {
                taken(what, banks.apply(count), 0, call);
                taken(what, banks.apply(count), count - 1, call);
            }
        }
    }

    static void swims(String what, Call call) {
        numbers(what, count -> Scene.bank(count, 0), 3, 10, call);
    }

    /** Anglers in a match, as far as there are any. */
    static void anglers(String what, Call call) {
        numbers(what, Edge::matchOf, 2, 8, call);
    }

    static Pegdraw matchOf(int anglers) {
        Pegdraw x = Scene.bank(10, 0);
        for (int i = 0; i < anglers; i++) {
            x.angler(9);
        }
        if (anglers >= 2) {
            x.draw();
            x.begin(300);
        }
        return x;
    }

    static void letters(String what, Supplier<Pegdraw> banks, String letters, LetterCall call) {
        Pegdraw bank = banks.get();
        for (int i = 0; i <= 512; i++) {
            letter(what, bank, letters, (char) i, call);
        }
        letter(what, bank, letters, Character.MAX_VALUE, call);
    }

    private static void letter(String what, Pegdraw bank, String letters, char letter, LetterCall call) {
        if (letters.indexOf(letter) >= 0) {
            taken(what, bank, letter, (some, number) -> call.on(some, (char) number));
        } else {
            Check.argument(what + " by letter " + (int) letter, bank, () -> call.on(bank, letter));
        }
    }

    static void taken(String what, Pegdraw bank, int number, Call call) {
        String thrown = "nothing";
        try {
            call.on(bank, number);
        } catch (RuntimeException e) {
            thrown = e.toString();
        }
        Check.isTrue(what + " " + number + " threw " + thrown + ", due is an answer", thrown.equals("nothing"));
    }

    /** Three swims, anglers at the first two, and the phase. */
    static Pegdraw inPhase(char phase) {
        Pegdraw x = Scene.bank(3, 0, 9, 9);
        if (phase != 'n') {
            Scene.draw(x, 3, new int[] {0, 1}, 0);
        }
        if (phase == 'm' || phase == 'e') {
            x.begin(10);
        }
        if (phase == 'e') {
            x.pass(10);
        }
        Check.due("phase", x.phase(), phase);
        return x;
    }

    /** The same behind a match that is over: as in phase 'n'. */
    static Pegdraw over() {
        Pegdraw x = inPhase('e');
        Scene.weighAll(x, 2);
        return x;
    }

    static void onlyIn(String phases, String what, Call call) {
        for (char phase : PHASES.toCharArray()) {
            Pegdraw bank = inPhase(phase);
            inOnePhase(phases.indexOf(phase) >= 0, what + " in phase " + phase, bank, call);
        }
        inOnePhase(phases.indexOf('n') >= 0, what + " behind a match", over(), call);
    }

    private static void inOnePhase(boolean isTaken, String what, Pegdraw bank, Call call) {
        if (isTaken) {
            taken(what, bank, 0, call);
        } else {
            Check.unsupported(what, bank, () -> call.on(bank, 0));
        }
    }

    static void inAllPhases(String what, Call call) {
        onlyIn(PHASES, what, call);
    }
}
