import java.math.BigInteger;

/** Promises 38 and 47 to 51. */
final class SumsEdges {
    private SumsEdges() {
    }

    static void run() {
        massByLetters();
        massOfNone();
        massOfSixty();
        checksumOfANewBank();
        checksumWrapsAround();
        shareOfNone();
        shareInTheWater();
        meanOfNone();
        meanInTheWater();
        soundAtTheEnds();
    }

    private static void massByLetters() {
        Doc.says("Promise 47", "`what`: 's' that were stocked, 'w' in the water, 'n' in nets, 'e' eaten, 'd' dead, 't' taken");
        Doc.says("Promise 47", "Throws `IllegalArgumentException` if there is no such thing");
        Edge.letters("mass", Pegdraw::new, "swnedt", Pegdraw::mass);
        Edge.letters("mass", Scene::oneOfEach, "swnedt", Pegdraw::mass);
        Edge.inAllPhases("mass", (x, n) -> x.mass('s'));
        Pegdraw x = Scene.oneOfEach();
        int[] due = {337 + 372 + 409 + 449 + 491, 372, 337, 409, 449, 491};
        for (int i = 0; i < due.length; i++) {
            Check.due("mass of " + "swnedt".charAt(i), x.mass("swnedt".charAt(i)), due[i]);
        }
    }

    private static void massOfNone() {
        Doc.says("Promise 47", "Returns the sum.");
        for (char what : "swnedt".toCharArray()) {
            Check.due("mass of " + what + " of a new bank", new Pegdraw().mass(what), 0);
        }
    }

    private static void massOfSixty() {
        Doc.says("Promise 47", "'s' that were stocked");
        Pegdraw x = Scene.bank(1, 0);
        for (int i = 0; i < 60; i++) {
            x.stock(0, 0, 90);
        }
        Check.due("the greatest mass", x.mass('s'), 546720);
        for (int i = 0; i < 60; i++) {
            x.eat(0);
        }
        Check.due("all eaten", x.mass('e'), 546720);
        Check.due("stocked as before", x.mass('s'), 546720);
        Check.due("none in the water", x.mass('w'), 0);
    }

    private static void checksumOfANewBank() {
        Doc.says("Promise 48", "Returns 7 at first");
        Check.due("checksum of a new bank", new Pegdraw().checksum(), 7L * 31 * 31 * 31 * 31 + 1);
        Pegdraw x = new Pegdraw();
        x.seed(2147483646);
        x.pass(1);
        Check.due("with the greatest z", x.checksum(), (7L * 31 * 31 * 31 + 1) * 31 + 2147483646L);
    }

    /** Sixty fish, ten swims and eight anglers go round the range of a long many times. */
    private static void checksumWrapsAround() {
        Doc.says("Promise 48", "then for each fish 31 times itself plus its swim, then its hunger, then its fright");
        Doc.says("Promise 48", "then for each swim 31 times itself plus its feed");
        Doc.says("Promise 48", "then for each angler 31 times itself plus what is in the net, by weight, then what was won");
        Doc.says("Promise 48", "then 31 times itself plus the fund, then the pot, then the minute, then z, likewise.");
        Pegdraw x = Edge.matchOf(8);
        for (int i = 0; i < 60; i++) {
            x.stock(i % 10, i % 4, 20 + i);
        }
        for (int i = 0; i < 8; i++) {
            x.cast(i, 0);
            x.feed(i, 20);
        }
        x.poach(3);
        int[] minutes = {1, 9, 50, 120, 120};
        for (int some : minutes) {
            x.pass(some);
            Check.due("checksum", x.checksum(), checksumByHand(x));
        }
        x.round(3);
        for (int i = 0; i < 8; i++) {
            x.weigh(i, 0);
            Check.due("checksum behind a scale", x.checksum(), checksumByHand(x));
        }
        checksumTellsOfAll();
        Pegdraw y = Scene.oneOfEach();
        Check.due("checksum with one of each state", y.checksum(), checksumByHand(y));
    }

    /** What a row of numbers could hide: a feed, and what was won, that are not 0. */
    private static void checksumTellsOfAll() {
        Pegdraw x = Edge.inPhase('m');
        x.feed(1, 7);
        long start = ((7L * 31 * 31 + 7) * 31) * 31 * 31 * 31 * 31;
        Check.due("checksum with feed", x.checksum(), (((start * 31) * 31 + 20) * 31) * 31 + Scene.z(x));
        Pegdraw y = Edge.inPhase('d');
        y.stake(1, 50);
        Scene.end(y);
        Scene.weighAll(y, 2);
        Check.due("won", y.won(1), 45);
        start = (((7L * 31 * 31 * 31) * 31 * 31) * 31 * 31 + 45) * 31 + 5;
        Check.due("checksum with what was won", y.checksum(), ((start * 31 + 20) * 31 + 10) * 31 + Scene.z(y));
    }

    private static long checksumByHand(Pegdraw x) {
        BigInteger sum = BigInteger.valueOf(7);
        int fish = x.mass('s') > 3000 ? 60 : 5;
        for (int i = 0; i < fish; i++) {
            sum = and(and(and(and(sum, x.of(i, 's')), x.of(i, 'h')), x.of(i, 'f')), x.state(i));
        }
        int swims = fish == 60 ? 10 : 3;
        for (int i = 0; i < swims; i++) {
            sum = and(sum, x.feedIn(i));
        }
        int anglers = fish == 60 ? 8 : 2;
        for (int i = 0; i < anglers; i++) {
            sum = and(and(sum, x.netWeight(i)), x.won(i));
        }
        return and(and(and(and(sum, x.fund()), x.pot()), x.minute()), Scene.z(x)).longValue();
    }

    private static BigInteger and(BigInteger sum, long one) {
        return sum.multiply(BigInteger.valueOf(31)).add(BigInteger.valueOf(one));
    }

    private static void shareOfNone() {
        Doc.says("Promise 49", "Throws `ArithmeticException` if there are none");
        Pegdraw x = Scene.bank(3, 0);
        Check.arithmetic("share of no fish", x, () -> (long) x.waterShare());
        Pegdraw empty = new Pegdraw();
        Check.arithmetic("share of no fish without a swim", empty, () -> (long) empty.waterShare());
        x.stock(0, 0, 5);
        Check.due("share of one", x.waterShare(), 1.0f);
        x.eat(0);
        Check.due("share of one that is eaten", x.waterShare(), 0.0f);
    }

    private static void shareInTheWater() {
        Doc.says("Promise 49", "Returns their number divided by that of all, both converted to float.");
        Pegdraw x = Scene.bank(1, 0);
        for (int i = 0; i < 60; i++) {
            x.stock(0, 0, 30);
        }
        for (int left = 60; left > 0; left--) {
            Check.due("share of " + left, x.waterShare(), (float) left / (float) 60);
            x.eat(0);
        }
        Check.due("share of 0", x.waterShare(), 0.0f);
        Check.due("one in five", Scene.oneOfEach().waterShare(), 1f / 5f);
    }

    private static void meanOfNone() {
        Doc.says("Promise 50", "Throws `ArithmeticException` if there are none");
        Pegdraw x = Scene.bank(3, 0);
        Check.arithmetic("mean of no fish", x, () -> (long) x.meanLength());
        x.stock(2, 0, 5);
        Check.due("mean of one", x.meanLength(), 5.0);
        x.eat(2);
        Check.arithmetic("mean of none in the water", x, () -> (long) x.meanLength());
        Pegdraw y = Scene.match(0, 9);
        y.stock(0, 0, 40);
        y.cast(0, 0);
        Scene.land(y, 0);
        Check.arithmetic("mean of one in a net", y, () -> (long) y.meanLength());
    }

    private static void meanInTheWater() {
        Doc.says("Promise 50", "Returns the sum divided by their number, both converted to double.");
        Pegdraw x = Scene.bank(2, 0);
        int sum = 0;
        for (int i = 0; i < 60; i++) {
            int length = 90 - i;
            x.stock(i % 2, 0, length);
            sum += length;
            Check.due("mean of " + (i + 1), x.meanLength(), (double) sum / (double) (i + 1));
        }
        Check.due("mean of one in the water", Scene.oneOfEach().meanLength(), 31.0);
    }

    private static void soundAtTheEnds() {
        Doc.says("Promise 51", "and hunger, fright and feed are 0 to 99.");
        Doc.says("Terms", "and a fright, 0 at first, each 0 to 99");
        Pegdraw x = Scene.frightened(95);
        Check.due("hunger of 99, fright of 95", x.isSound(), true);
        Scene.lose(x, 1);
        x.setLeast(0, 5);
        Scene.land(x, 1);
        Scene.end(x);
        x.weigh(1, 0);
        Check.due("fright", x.of(0, 'f'), 99);
        Check.due("fright of 99", x.isSound(), true);
        Pegdraw y = Edge.inPhase('m');
        Scene.feedTo(y, 0, 99);
        Check.due("feed of 99", y.isSound(), true);
        Check.due("a new bank", new Pegdraw().isSound(), true);
        Doc.says("Promise 51", "what was stocked is in the water, in nets, eaten, dead or taken");
        Check.due("one of each state", Scene.oneOfEach().isSound(), true);
        Pegdraw full = Edge.matchOf(8);
        for (int i = 0; i < 60; i++) {
            full.stock(i % 10, 0, 90);
        }
        Check.due("a full bank", full.isSound(), true);
        Edge.inAllPhases("isSound", (some, n) -> some.isSound() ? 1 : 0);
    }
}
