import java.util.Random;
import java.util.function.Supplier;

/** Long runs of calls by fixed seeds: each answer, exception and checksum is that of the model. */
public final class ModelTest {
    private static final int RUNS = 1500;
    private static final int CALLS = 512;
    /** In the first runs all that the bank holds is looked at, too: refused calls must leave it as it was. */
    private static final int RUNS_LOOKED_INTO = 60;
    private static final String LETTERS = "klghfscumnwedtx";
    private static final int[] WRONG = {-1, -2, 10, 60, 121, 301, Integer.MIN_VALUE, Integer.MAX_VALUE};

    private final Pegdraw bank = new Pegdraw();
    private final Model model = new Model();
    private final Random random;
    private final StringBuilder log = new StringBuilder();
    private final int run;
    private boolean right = true;

    private ModelTest(int run) {
        this.run = run;
        random = new Random(run);
    }

    public static void main(String[] args) {
        int matches = 0;
        int crossed = 0;
        int most = 0;
        for (int run = 0; run < RUNS; run++) {
            ModelTest one = new ModelTest(run);
            one.walk();
            matches += one.bank.matches();
            crossed += one.bank.crossed();
            most = Math.max(most, one.bank.matches());
        }
        System.out.println("  " + RUNS + " runs, " + matches + " matches, " + crossed + " crossings, at most "
                + most + " matches in a run");
        Check.isTrue("runs come as far as many matches", most > 20 && matches > 3 * RUNS && crossed > RUNS);
        Check.end();
    }

    private void walk() {
        int swims = 2 + random.nextInt(9);
        int anglers = 2 + random.nextInt(Math.min(7, swims - 1));
        for (int i = 0; i < swims; i++) {
            call(0);
        }
        for (int i = 0; i < anglers; i++) {
            call(11);
        }
        for (int i = random.nextInt(50); i > 0; i--) {
            call(6);
        }
        boolean hasty = random.nextInt(4) == 0;
        for (int i = swims + anglers + 50; i < CALLS && right; i++) {
            if (hasty ? random.nextInt(10) > 0 : random.nextInt(3) == 0) {
                goOn(hasty);
            } else {
                call(random.nextInt(51));
            }
        }
    }

    /** What brings matches on, in the phase that is. */
    private void goOn(boolean hasty) {
        switch (bank.phase()) {
            case 'n':
                call(random.nextInt(6) == 0 ? 6 : 13);
                break;
            case 'd':
                call(!hasty && random.nextInt(3) > 0 ? 15 : 16);
                break;
            case 'm':
                int[] some = {18, 18, 18, 18, 21, 23};
                call(hasty ? 23 : some[random.nextInt(some.length)]);
                break;
            default:
                call(random.nextInt(5) == 0 ? 30 : 29);
                break;
        }
    }

    /** Mostly a number of the range, now and then one at or beyond its ends. */
    private int in(int from, int to) {
        int dice = random.nextInt(60);
        if (dice == 0) {
            return WRONG[random.nextInt(WRONG.length)];
        }
        if (dice == 1) {
            return random.nextBoolean() ? from - 1 : to + 1;
        }
        if (dice < 6) {
            return random.nextBoolean() ? from : to;
        }
        return from + random.nextInt(to - from + 1);
    }

    private int aSwim() {
        return in(0, 9 - random.nextInt(8));
    }

    private int anAngler() {
        return in(0, 7 - random.nextInt(7));
    }

    private int aFish() {
        return in(0, 59 - random.nextInt(50));
    }

    private char aLetter() {
        return LETTERS.charAt(random.nextInt(LETTERS.length()));
    }

    private void same(String what, Supplier<Object> real, Supplier<String> due) {
        String held = heldNow();
        String got;
        try {
            Object answer = real.get();
            got = answer instanceof Boolean ? ((Boolean) answer ? "1" : "0") : answer.toString();
        } catch (RuntimeException e) {
            got = e.getClass().getSimpleName();
            Check.isTrue("run " + run + ": " + what + " was refused and changed the bank", held.equals(heldNow()));
        }
        String want = due.get();
        log.append("    ").append(what).append(" -> ").append(got).append('\n');
        right = right && want.equals(got) && Long.toString(bank.checksum()).equals(model.checksum())
                && bank.phase() == model.phase() && bank.isSound();
        if (!right) {
            System.out.print(log);
        }
        Check.isTrue("run " + run + ": " + what + " answered " + got + ", due is " + want, right);
    }

    private String heldNow() {
        return run < RUNS_LOOKED_INTO ? Held.by(bank) : "";
    }

    private void call(int which) {
        int swim = aSwim();
        int one = anAngler();
        int fish = aFish();
        boolean is = random.nextInt(3) > 0;
        char letter = aLetter();
        switch (which) {
            case 0: { int d = in(1, 9), s = in(0, 9); same("swim " + d + " " + s, () -> bank.swim(d, s), () -> model.swim(d, s)); break; }
            case 1: same("open " + swim + " " + is, () -> bank.open(swim, is), () -> model.open(swim, is)); break;
            case 2: { int v = in(0, 9); same("setFlow " + v, () -> bank.setFlow(v), () -> model.setFlow(v)); break; }
            case 3: { int v = in(0, 30); same("setWarmth " + v, () -> bank.setWarmth(v), () -> model.setWarmth(v)); break; }
            case 4: { int v = in(1, 2147483646 - 1); same("seed " + v, () -> bank.seed(v), () -> model.seed(v)); break; }
            case 5: case 6: { int k = in(0, 3), l = in(5, 90); same("stock " + swim + " " + k + " " + l, () -> bank.stock(swim, k, l), () -> model.stock(swim, k, l)); break; }
            case 7: { int k = in(0, 3), l = in(5, 5 + random.nextInt(86)); same("setLeast " + k + " " + l, () -> bank.setLeast(k, l), () -> model.setLeast(k, l)); break; }
            case 8: same("of " + fish + " " + letter, () -> bank.of(fish, letter), () -> model.of(fish, letter)); break;
            case 9: same("state " + fish, () -> (int) bank.state(fish), () -> model.state(fish)); break;
            case 10: same("fishIn " + swim, () -> bank.fishIn(swim), () -> model.fishIn(swim)); break;
            case 11: { int s = in(1, 9); same("angler " + s, () -> bank.angler(s), () -> model.angler(s)); break; }
            case 12: if (is) { int s = in(1, 9); same("angler " + s, () -> bank.angler(s), () -> model.angler(s)); } else { same("eat " + swim, () -> bank.eat(swim), () -> model.eat(swim)); } break;
            case 13: same("draw", () -> bank.draw(), () -> model.draw()); break;
            case 14: same("pegOf " + one, () -> bank.pegOf(one), () -> model.pegOf(one)); break;
            case 15: { int c = in(1, 50); same("stake " + one + " " + c, () -> bank.stake(one, c), () -> model.stake(one, c)); break; }
            case 16: { int m = in(10, is ? 30 : 300); same("begin " + m, () -> bank.begin(m), () -> model.begin(m)); break; }
            case 17: same("crossed", () -> bank.crossed(), () -> model.crossed()); break;
            case 18: { int b = in(-1, 1); same("cast " + one + " " + b, () -> bank.cast(one, b), () -> model.cast(one, b)); break; }
            case 19: same("reel " + one, () -> bank.reel(one), () -> model.reel(one)); break;
            case 20: same("lineOf " + one, () -> bank.lineOf(one), () -> model.lineOf(one)); break;
            case 21: { int b = in(1, 20); same("feed " + one + " " + b, () -> bank.feed(one, b), () -> model.feed(one, b)); break; }
            case 22: same("feedIn " + swim, () -> bank.feedIn(swim), () -> model.feedIn(swim)); break;
            case 23: { int m = in(1, is ? 10 : 120); same("pass " + m, () -> bank.pass(m), () -> model.pass(m)); break; }
            case 24: same("minute", () -> bank.minute(), () -> model.minute()); break;
            default: callLate(which, swim, one, is, letter); break;
        }
    }

    private void callLate(int which, int swim, int one, boolean is, char letter) {
        int match = in(0, Math.max(0, bank.matches() - 1));
        switch (which) {
            case 26: case 25: same("account " + one + " " + letter, () -> bank.account(one, letter), () -> model.account(one, letter)); break;
            case 27: same("netWeight " + one, () -> bank.netWeight(one), () -> model.netWeight(one)); break;
            case 28: { int s = in(0, 1), g = in(-50, 50); same("setError " + s + " " + g, () -> bank.setError(s, g), () -> model.setError(s, g)); break; }
            case 29: { int s = in(0, 1); same("weigh " + one + " " + s, () -> bank.weigh(one, s), () -> model.weigh(one, s)); break; }
            case 30: same("claim " + one, () -> bank.claim(one), () -> model.claim(one)); break;
            case 31: same("slip " + one, () -> bank.slip(one), () -> model.slip(one)); break;
            case 32: same("matches", () -> bank.matches(), () -> model.matches()); break;
            case 33: same("points " + match + " " + one, () -> bank.points(match, one), () -> model.points(match, one)); break;
            case 34: same("winner " + match, () -> bank.winner(match), () -> model.winner(match)); break;
            case 35: same("total " + one, () -> bank.total(one), () -> model.total(one)); break;
            case 36: case 37: same("table " + one, () -> bank.table(one), () -> model.table(one)); break;
            case 38: same("pot", () -> bank.pot(), () -> model.pot()); break;
            case 39: same("won " + one, () -> bank.won(one), () -> model.won(one)); break;
            case 40: same("ticket " + one + " " + is, () -> bank.ticket(one, is), () -> model.ticket(one, is)); break;
            case 41: same("poach " + swim, () -> bank.poach(swim), () -> model.poach(swim)); break;
            case 42: same("round " + swim, () -> bank.round(swim), () -> model.round(swim)); break;
            case 43: same("owes " + one, () -> bank.owes(one), () -> model.owes(one)); break;
            case 44: same("pay " + one, () -> bank.pay(one), () -> model.pay(one)); break;
            case 45: same("amnesty", () -> bank.amnesty(), () -> model.amnesty()); break;
            case 46: same("fund", () -> bank.fund(), () -> model.fund()); break;
            case 47: same("mass " + letter, () -> bank.mass(letter), () -> model.mass(letter)); break;
            case 48: same("waterShare", () -> bank.waterShare(), () -> model.waterShare()); break;
            case 49: same("meanLength", () -> bank.meanLength(), () -> model.meanLength()); break;
            default: same("checksum", () -> bank.checksum(), () -> model.checksum()); break;
        }
    }
}
