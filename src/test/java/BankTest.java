import java.util.NoSuchElementException;

/** Promises 1 to 12: swims, settings, fish and the otter. */
public final class BankTest {
    private static final Class<IllegalArgumentException> ARGUMENT = IllegalArgumentException.class;
    private static final Class<IndexOutOfBoundsException> INDEX = IndexOutOfBoundsException.class;
    private static final Class<UnsupportedOperationException> UNSUPPORTED = UnsupportedOperationException.class;
    private static final Class<IllegalStateException> STATE = IllegalStateException.class;
    private static final Class<NoSuchElementException> NO_SUCH = NoSuchElementException.class;

    public static void main(String[] args) {
        newObject();
        swim();
        open();
        settings();
        seed();
        stock();
        setLeast();
        of();
        state();
        fishIn();
        eat();
        Check.end();
    }

    private static void newObject() {
        Pegdraw x = new Pegdraw();
        Check.due("checksum of a new bank", x.checksum(), 7L * 31 * 31 * 31 * 31 + 1);
        Check.due("phase", x.phase(), 'n');
        Check.due("minute", x.minute(), 0);
        Check.due("matches", x.matches(), 0);
        Check.due("pot", x.pot(), 0);
        Check.due("fund", x.fund(), 0);
        Check.due("crossed", x.crossed(), 0);
        Check.due("amnesty", x.amnesty(), 0);
        Check.due("mass", x.mass('s'), 0);
        Check.due("sound", x.isSound(), true);
        Check.refused("fishIn(0)", x, INDEX, () -> x.fishIn(0));
        Check.refused("state(0)", x, INDEX, () -> x.state(0));
        Check.refused("won(0)", x, INDEX, () -> x.won(0));
        Check.refused("table(0)", x, NO_SUCH, () -> x.table(0));
    }

    private static void swim() {
        Pegdraw x = new Pegdraw();
        int[][] wrong = {{0, 0}, {10, 0}, {1, -1}, {1, 10}, {Integer.MIN_VALUE, 0}, {1, Integer.MAX_VALUE}};
        for (int[] pair : wrong) {
            Check.refused("swim" + pair[0] + "," + pair[1], x, ARGUMENT, () -> x.swim(pair[0], pair[1]));
        }
        Check.due("swim(1, 0)", x.swim(1, 0), 0);
        Check.due("swim(9, 9)", x.swim(9, 9), 1);
        for (int i = 2; i < 10; i++) {
            Check.due("swim", x.swim(i - 1, i - 1), i);
        }
        Check.refused("an eleventh swim", x, STATE, () -> x.swim(1, 0));
        Check.refused("an eleventh swim out of range", x, ARGUMENT, () -> x.swim(0, 0));
        x.angler(1);
        x.angler(1);
        x.draw();
        Check.refused("an eleventh swim behind the draw", x, UNSUPPORTED, () -> x.swim(1, 0));
        Check.refused("a wrong swim behind the draw", x, ARGUMENT, () -> x.swim(1, 10));
        Check.due("no feed at first", x.feedIn(9), 0);
    }

    private static void open() {
        Pegdraw x = Scene.bank(3, 0, 5, 5);
        Check.refused("open(3)", x, INDEX, () -> x.open(3, true) ? 1 : 0);
        Check.refused("open(-1)", x, INDEX, () -> x.open(-1, true) ? 1 : 0);
        Check.due("open at first", x.open(1, false), true);
        Check.due("then closed", x.open(1, false), false);
        for (int seed = 1; seed < 40; seed++) {
            closedPegIsNotGiven(seed);
        }
        Check.due("opened again", x.open(1, true), false);
        Check.due("and open", x.open(1, true), true);
        x.draw();
        Check.refused("open behind the draw", x, UNSUPPORTED, () -> x.open(0, true) ? 1 : 0);
        Check.refused("open of no swim behind the draw", x, INDEX, () -> x.open(3, true) ? 1 : 0);
        Scene.end(x);
        Check.refused("open before the scales", x, UNSUPPORTED, () -> x.open(0, true) ? 1 : 0);
        Scene.weighAll(x, 2);
        Check.due("open behind the match", x.open(0, true), true);
    }

    private static void closedPegIsNotGiven(int seed) {
        Pegdraw x = Scene.bank(3, 0, 5, 5);
        x.open(1, false);
        x.seed(seed);
        x.draw();
        Check.isTrue("closed peg with seed " + seed, x.pegOf(0) != 1 && x.pegOf(1) != 1);
        Check.due("both pegs", x.pegOf(0) + x.pegOf(1), 2);
    }

    private static void settings() {
        Pegdraw x = new Pegdraw();
        Check.due("flow at first", x.setFlow(9), 3);
        Check.due("flow", x.setFlow(0), 9);
        Check.refused("setFlow(10)", x, ARGUMENT, () -> x.setFlow(10));
        Check.refused("setFlow(-1)", x, ARGUMENT, () -> x.setFlow(-1));
        Check.due("flow", x.setFlow(1), 0);
        Check.due("warmth at first", x.setWarmth(30), 15);
        Check.due("warmth", x.setWarmth(0), 30);
        Check.refused("setWarmth(31)", x, ARGUMENT, () -> x.setWarmth(31));
        Check.refused("setWarmth(-1)", x, ARGUMENT, () -> x.setWarmth(-1));
        Check.due("warmth", x.setWarmth(3), 0);
    }

    private static void seed() {
        Pegdraw x = new Pegdraw();
        Check.due("z at first", x.seed(2147483646), 1);
        Check.refused("seed(0)", x, ARGUMENT, () -> x.seed(0));
        Check.refused("seed(2147483647)", x, ARGUMENT, () -> x.seed(2147483647));
        Check.refused("seed(-5)", x, ARGUMENT, () -> x.seed(-5));
        Check.due("z", x.seed(1), 2147483646);
        x.swim(1, 0);
        x.swim(1, 0);
        x.angler(1);
        x.angler(1);
        x.draw();
        Check.due("z behind three draws", x.seed(5), Seeds.next(Seeds.next(Seeds.next(1))));
    }

    private static void stock() {
        Pegdraw x = Scene.bank(2, 0);
        int[][] wrong = {{-1, 5}, {4, 5}, {0, 4}, {0, 91}, {3, Integer.MAX_VALUE}};
        for (int[] pair : wrong) {
            Check.refused("stock " + pair[0] + "," + pair[1], x, ARGUMENT, () -> x.stock(0, pair[0], pair[1]));
        }
        Check.refused("stock in no swim", x, INDEX, () -> x.stock(2, 9, 9));
        Check.refused("stock in swim -1", x, INDEX, () -> x.stock(-1, 0, 9));
        for (int i = 0; i < 60; i++) {
            Check.due("stock", x.stock(i % 2, i % 4, 5 + i), i);
        }
        Check.refused("a 61st fish", x, STATE, () -> x.stock(0, 0, 5));
        Check.refused("a 61st fish, out of range", x, ARGUMENT, () -> x.stock(0, 0, 4));
        Check.refused("a 61st fish in no swim", x, INDEX, () -> x.stock(5, 0, 5));
        x.eat(0);
        Check.refused("a 61st fish behind the otter", x, STATE, () -> x.stock(0, 0, 5));
        Check.due("fish behind the draw can be stocked", stockedInMatch(), 0);
    }

    private static int stockedInMatch() {
        return Scene.match(0, 5).stock(2, 3, 90);
    }

    private static void setLeast() {
        Pegdraw x = new Pegdraw();
        for (int kind = 0; kind < 4; kind++) {
            Check.due("least at first", x.setLeast(kind, 5 + kind), 20);
            Check.due("least", x.setLeast(kind, 90), 5 + kind);
        }
        Check.refused("kind 4", x, ARGUMENT, () -> x.setLeast(4, 5));
        Check.refused("kind -1", x, ARGUMENT, () -> x.setLeast(-1, 5));
        Check.refused("length 4", x, ARGUMENT, () -> x.setLeast(0, 4));
        Check.refused("length 91", x, ARGUMENT, () -> x.setLeast(0, 91));
        Check.due("least", x.setLeast(0, 5), 90);
    }

    private static void of() {
        Pegdraw x = Scene.bank(2, 0);
        x.stock(1, 3, 47);
        Check.due("kind", x.of(0, 'k'), 3);
        Check.due("length", x.of(0, 'l'), 47);
        Check.due("weight", x.of(0, 'g'), 1297);
        Check.due("hunger", x.of(0, 'h'), 50);
        Check.due("fright", x.of(0, 'f'), 0);
        Check.due("swim", x.of(0, 's'), 1);
        Check.due("landings", x.of(0, 'c'), 0);
        x.stock(0, 0, 5);
        x.stock(0, 0, 90);
        Check.due("least weight", x.of(1, 'g'), 1);
        Check.due("greatest weight", x.of(2, 'g'), 9112);
        Check.refused("of(3, 'k')", x, INDEX, () -> x.of(3, 'k'));
        Check.refused("of(-1, 'x')", x, INDEX, () -> x.of(-1, 'x'));
        Check.refused("of(0, 'x')", x, ARGUMENT, () -> x.of(0, 'x'));
        Check.refused("of(0, 'K')", x, ARGUMENT, () -> x.of(0, 'K'));
        x.eat(1);
        Check.due("swim of one that is gone", x.of(0, 's'), 1);
    }

    private static void state() {
        Pegdraw x = Scene.match(0, 9);
        x.stock(0, 0, 40);
        x.stock(2, 0, 40);
        x.stock(2, 0, 41);
        Check.due("in the water", x.state(0), 'w');
        x.cast(0, 0);
        Scene.land(x, 0);
        Check.due("in a net", x.state(0), 'n');
        x.eat(2);
        Check.due("eaten", x.state(2), 'e');
        Check.due("not eaten", x.state(1), 'w');
        Check.refused("state(3)", x, INDEX, () -> x.state(3));
        Check.refused("state(-1)", x, INDEX, () -> x.state(-1));
    }

    private static void fishIn() {
        Pegdraw x = Scene.match(0, 9);
        x.stock(0, 0, 40);
        x.stock(0, 0, 40);
        x.stock(1, 0, 40);
        Check.due("in swim 0", x.fishIn(0), 2);
        Check.due("in swim 1", x.fishIn(1), 1);
        Check.due("in swim 2", x.fishIn(2), 0);
        x.cast(0, 0);
        Scene.land(x, 0);
        Check.due("in swim 0 without the netted one", x.fishIn(0), 1);
        Check.refused("fishIn(3)", x, INDEX, () -> x.fishIn(3));
        Check.refused("fishIn(-1)", x, INDEX, () -> x.fishIn(-1));
    }

    private static void eat() {
        Pegdraw x = Scene.bank(2, 0);
        x.stock(0, 0, 30);
        x.stock(0, 1, 31);
        x.stock(0, 2, 31);
        x.stock(1, 3, 90);
        Check.due("the heaviest, of like ones the lowest", x.eat(0), 1);
        Check.due("the next one", x.eat(0), 2);
        Check.due("the last one", x.eat(0), 0);
        Check.refused("eat of none", x, NO_SUCH, () -> x.eat(0));
        Check.refused("eat in no swim", x, INDEX, () -> x.eat(2));
        Check.refused("eat in swim -1", x, INDEX, () -> x.eat(-1));
        Check.due("the other swim's", x.state(3), 'w');
        Check.due("eaten by weight", x.mass('e'), 337 + 372 + 372);
    }
}
