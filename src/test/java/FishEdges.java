/** The terms of fish, and promises 7 to 12. */
final class FishEdges {
    private FishEdges() {
    }

    static void run() {
        sixtyFish();
        sixtyFirstFish();
        stockInNoSwim();
        kindRange();
        lengthRange();
        stockWithSeveralFaults();
        weightOfEachLength();
        hungerAndFrightAtFirst();
        leastAtFirst();
        leastRange();
        leastOfOneLength();
        numbersOfFish();
        noSuchFish();
        swimOfOneThatIsGone();
        landings();
        states();
        netIsInTheSwimOfThePeg();
        fishInSwims();
        otterFindsNone();
        otterTakesTheHeaviest();
    }

    private static Pegdraw full(int fish) {
        Pegdraw x = Scene.bank(2, 0);
        for (int i = 0; i < fish; i++) {
            Check.due("stock", x.stock(i % 2, i % 4, 5 + i), i);
        }
        return x;
    }

    private static void sixtyFish() {
        Doc.says("Terms", "At most 60 are numbered from 0");
        Check.due("the sixtieth", full(60).of(59, 'l'), 64);
    }

    private static void sixtyFirstFish() {
        Doc.says("Promise 7", "Throws `IllegalStateException` if there were 60");
        Edge.taken("a sixtieth fish", full(59), 0, (x, swim) -> x.stock(swim, 0, 5));
        Pegdraw x = full(60);
        Check.state("a 61st fish", x, () -> x.stock(0, 0, 5));
        x.eat(0);
        x.eat(1);
        Check.state("a 61st fish, as two are gone", x, () -> x.stock(0, 0, 5));
    }

    private static void stockInNoSwim() {
        Doc.says("Promise 7", "Throws `IndexOutOfBoundsException` if there is no such swim");
        Edge.swims("stock", (x, swim) -> x.stock(swim, 0, 5));
        Edge.inAllPhases("stock", (x, swim) -> x.stock(swim, 0, 5));
    }

    private static void kindRange() {
        Doc.says("Terms", "each of a kind, 0 to 3");
        Doc.says("Promise 7", "`kind`: 0 to 3");
        Doc.says("Promise 7", "Throws `IllegalArgumentException` if a number is out of range");
        Edge.range("kind", () -> Scene.bank(1, 0), 0, 3, (x, kind) -> x.stock(0, kind, 20));
        Pegdraw x = Scene.bank(1, 0);
        x.stock(0, 3, 20);
        Check.due("the greatest kind is kept", x.of(0, 'k'), 3);
    }

    private static void lengthRange() {
        Doc.says("Terms", "of a length of 5 to 90");
        Doc.says("Promise 7", "`length`: 5 to 90");
        Edge.range("length", () -> Scene.bank(1, 0), 5, 90, (x, length) -> x.stock(0, 0, length));
        Pegdraw x = Scene.bank(1, 0);
        x.stock(0, 0, 90);
        x.stock(0, 0, 5);
        Check.due("the greatest length is kept", x.of(0, 'l'), 90);
        Check.due("the least length is kept", x.of(1, 'l'), 5);
    }

    private static void stockWithSeveralFaults() {
        Doc.says("Terms", "If several conditions of a method apply");
        Pegdraw x = Scene.bank(2, 0);
        Check.index("no swim, and a wrong kind", x, () -> x.stock(2, 4, 20));
        Check.index("no swim, and a wrong length", x, () -> x.stock(-1, 0, 91));
        Pegdraw full = full(60);
        Check.index("no swim, and 60 fish", full, () -> full.stock(2, 0, 20));
        Check.argument("a wrong kind, and 60 fish", full, () -> full.stock(0, -1, 20));
        Check.argument("a wrong length, and 60 fish", full, () -> full.stock(0, 0, 4));
    }

    private static void weightOfEachLength() {
        Doc.says("Terms", "with a weight of its length cubed, divided by 80, cut, in a swim");
        for (int from = 5; from <= 90; from += 43) {
            Pegdraw x = Scene.bank(1, 0);
            for (int i = 0; i < 43; i++) {
                x.stock(0, 0, from + i);
                long cubed = Math.round(Math.pow(from + i, 3));
                long eightieths = 80L * x.of(i, 'g');
                Check.isTrue("weight of " + (from + i), eightieths <= cubed && cubed < eightieths + 80);
            }
        }
        int[][] lengthsAndWeights = {{5, 1}, {19, 85}, {20, 100}, {21, 115}, {39, 741}, {40, 800}, {90, 9112}};
        for (int[] one : lengthsAndWeights) {
            Pegdraw x = Scene.bank(1, 0);
            x.stock(0, 0, one[0]);
            Check.due("weight of " + one[0], x.of(0, 'g'), one[1]);
            Check.due("mass of " + one[0], x.mass('s'), one[1]);
        }
    }

    private static void hungerAndFrightAtFirst() {
        Doc.says("Terms", "with a hunger, 50 at first, and a fright, 0 at first");
        Pegdraw x = full(60);
        for (int i = 0; i < 60; i++) {
            Check.due("hunger of " + i, x.of(i, 'h'), 50);
            Check.due("fright of " + i, x.of(i, 'f'), 0);
        }
    }

    private static Pegdraw landedOne(int kind, int length) {
        Pegdraw x = Scene.match(0, 9);
        landOne(x, kind, length);
        return x;
    }

    private static void landOne(Pegdraw x, int kind, int length) {
        x.stock(0, kind, length);
        x.cast(0, 0);
        Scene.land(x, 0);
    }

    private static void leastAtFirst() {
        Doc.says("Terms", "Each kind has a least length, 20 at first.");
        for (int kind = 0; kind < 4; kind++) {
            Check.due("least of kind " + kind, new Pegdraw().setLeast(kind, 5), 20);
            Check.due("19 of kind " + kind, landedOne(kind, 19).state(0), 'w');
            Check.due("20 of kind " + kind, landedOne(kind, 20).state(0), 'n');
        }
    }

    private static void leastRange() {
        Doc.says("Promise 8", "`kind`: 0 to 3");
        Doc.says("Promise 8", "`length`: 5 to 90");
        Doc.says("Promise 8", "Throws `IllegalArgumentException` if a number is out of range");
        Edge.range("least of a kind", Pegdraw::new, 0, 3, (x, kind) -> x.setLeast(kind, 20));
        Edge.range("least", Pegdraw::new, 5, 90, (x, length) -> x.setLeast(3, length));
        Edge.inAllPhases("least", (x, kind) -> x.setLeast(kind, 20));
    }

    private static void leastOfOneLength() {
        Doc.says("Promise 8", "Returns the one before.");
        for (int kind = 0; kind < 4; kind++) {
            Pegdraw x = new Pegdraw();
            x.setLeast(kind, 90);
            for (int other = 0; other < 4; other++) {
                Check.due("least of " + other, x.setLeast(other, 5), other == kind ? 90 : 20);
            }
        }
        Pegdraw x = Scene.match(0, 9);
        x.setLeast(1, 90);
        x.setLeast(2, 5);
        landOne(x, 1, 89);
        Check.due("89, the least being 90", x.state(0), 'w');
        landOne(x, 2, 5);
        Check.due("5, the least being 5", x.state(1), 'n');
    }

    private static void numbersOfFish() {
        Doc.says("Promise 9", "`what`: 'k' its kind, 'l' its length, 'g' its weight, 'h' its hunger, 'f' its fright");
        Doc.says("Promise 9", "Throws `IllegalArgumentException` if there is no such number");
        Edge.letters("of", () -> full(1), "klghfsc", (x, what) -> x.of(0, what));
        Pegdraw x = Scene.match(0, 9);
        x.setLeast(3, 90);
        landOne(x, 3, 40);
        int[] due = {3, 40, 800, 21, 29, 0, 1};
        for (int i = 0; i < due.length; i++) {
            Check.due("number " + "klghfsc".charAt(i), x.of(0, "klghfsc".charAt(i)), due[i]);
        }
    }

    private static void noSuchFish() {
        Doc.says("Promise 9", "Throws `IndexOutOfBoundsException` if there is no such fish");
        Doc.says("Promise 10", "Throws `IndexOutOfBoundsException` if there is no such fish");
        Edge.numbers("of", FishEdges::full, 1, 60, (x, fish) -> x.of(fish, 'l'));
        Edge.numbers("state", FishEdges::full, 1, 60, Pegdraw::state);
        Edge.inAllPhases("of", (x, swim) -> x.of(x.stock(swim, 0, 20), 'k'));
        Edge.inAllPhases("state", (x, swim) -> x.state(x.stock(swim, 0, 20)));
        Pegdraw x = full(1);
        Check.index("no such fish, and no such number", x, () -> x.of(1, 'x'));
        Check.index("no such fish, and no such number", x, () -> x.of(-1, 'x'));
    }

    private static void swimOfOneThatIsGone() {
        Doc.says("Promise 9", "'s' its swim, where it was last if it is gone");
        Pegdraw x = Scene.oneOfEach();
        int[] due = {0, 2, 2, 1, 0};
        x.pass(60);
        for (int i = 0; i < 5; i++) {
            Check.due("swim of the " + x.state(i), x.of(i, 's'), due[i]);
        }
        Pegdraw y = Scene.match(0, 9);
        y.stock(0, 0, 40);
        y.feed(1, 2);
        y.pass(1);
        y.eat(1);
        Check.due("swim to which it had moved", y.of(0, 's'), 1);
    }

    private static void landings() {
        Doc.says("Promise 9", "'c' how often it was landed, and put back or not");
        Pegdraw x = Scene.match(0, 9);
        x.setLeast(0, 41);
        landOne(x, 0, 40);
        Check.due("landed and put back", x.of(0, 'c'), 1);
        x.setLeast(0, 40);
        Scene.rest(x, 0, 60);
        Scene.land(x, 0);
        Check.due("landed and kept", x.of(0, 'c'), 2);
        Pegdraw y = Scene.match(9, 9);
        y.stock(0, 0, 40);
        y.cast(0, 0);
        Scene.lose(y, 0);
        Scene.miss(y, 0);
        Check.due("lost or missed is not landed", y.of(0, 'c'), 0);
    }

    private static void states() {
        Doc.says("Terms", "A fish is in the water 'w', in a net 'n', eaten 'e', dead 'd', or taken 't'");
        Doc.says("Promise 10", "Returns 'w', 'n', 'e', 'd' or 't'.");
        Pegdraw x = Scene.oneOfEach();
        for (int i = 0; i < 5; i++) {
            Check.due("state of " + i, x.state(i), "nwedt".charAt(i));
        }
        Scene.end(x);
        Scene.weighAll(x, 2);
        Check.due("state behind the scales", x.state(0), 'w');
    }

    private static void netIsInTheSwimOfThePeg() {
        Doc.says("Terms", "in a net it is still in a swim, that of the peg of its angler");
        Pegdraw x = Scene.match(0, 9);
        x.stock(2, 0, 40);
        x.cast(1, 1);
        Scene.land(x, 1);
        Check.due("swim of one in a net", x.of(0, 's'), 1);
        Check.due("not in the water there", x.fishIn(1), 0);
        Check.due("nor where it was", x.fishIn(2), 0);
    }

    private static void fishInSwims() {
        Doc.says("Promise 11", "Throws `IndexOutOfBoundsException` if there is no such swim");
        Edge.swims("fishIn", Pegdraw::fishIn);
        Edge.inAllPhases("fishIn", Pegdraw::fishIn);
        Pegdraw x = Scene.oneOfEach();
        int[] due = {0, 0, 1};
        for (int i = 0; i < 3; i++) {
            Check.due("in the water of " + i, x.fishIn(i), due[i]);
        }
        Pegdraw full = full(60);
        Check.due("half of sixty", full.fishIn(0), 30);
        Check.due("the other half", full.fishIn(1), 30);
    }

    private static void otterFindsNone() {
        Doc.says("Promise 12", "Throws `NoSuchElementException` if there is none");
        Doc.says("Promise 12", "Throws `IndexOutOfBoundsException` if there is no such swim");
        Edge.swims("eat", (x, swim) -> {
            x.stock(swim, 0, 20);
            return x.eat(swim);
        });
        Edge.inAllPhases("eat", (x, swim) -> {
            x.stock(swim, 0, 20);
            return x.eat(swim);
        });
        Pegdraw x = Scene.oneOfEach();
        Check.noSuch("eat where one is in a net and one was taken", x, () -> x.eat(0));
        Check.noSuch("eat where one is dead", x, () -> x.eat(1));
        Check.due("eat the one in the water", x.eat(2), 1);
        Check.noSuch("eat where all are eaten", x, () -> x.eat(2));
        Check.index("eat in no swim", x, () -> x.eat(3));
    }

    private static void otterTakesTheHeaviest() {
        Doc.says("Promise 12", "Returns the fish, of like ones the lowest.");
        Pegdraw x = Scene.bank(2, 0);
        int[] lengths = {89, 90, 90, 5, 6};
        for (int length : lengths) {
            x.stock(1, 0, length);
        }
        int[] due = {1, 2, 0, 4, 3};
        for (int fish : due) {
            Check.due("eat", x.eat(1), fish);
            Check.due("eaten", x.state(fish), 'e');
        }
    }
}
