import java.math.BigInteger;

/** The terms of z and of the bank, and promises 1 to 6. */
final class BankEdges {
    private BankEdges() {
    }

    static void run() {
        zAtFirst();
        drawsOfZ();
        seedRange();
        newBankIsEmpty();
        tenSwims();
        eleventhSwim();
        depthRange();
        snagsRange();
        swimWhilePegsAreDrawn();
        swimWithSeveralFaults();
        noFeedAtFirst();
        openAtFirst();
        openOfNoSwim();
        openWhilePegsAreDrawn();
        flowRange();
        warmthRange();
        minuteAtFirst();
    }

    private static void zAtFirst() {
        Doc.says("Terms", "which is 1 at first");
        Check.due("z of a new bank", new Pegdraw().seed(2), 1);
    }

    /** 44488 times 48271 is below the modulus, 44489 times is above it. */
    private static void drawsOfZ() {
        Doc.says("Terms", "Each makes z, which is 1 at first, z times 48271 modulo 2147483647, and is that.");
        BigInteger modulus = BigInteger.valueOf(2147483647L);
        int[] seeds = {1, 2, 44488, 44489, 2147483645, 2147483646};
        for (int seed : seeds) {
            Pegdraw x = Scene.bank(2, 0, 1, 1);
            x.seed(seed);
            x.draw();
            BigInteger due = BigInteger.valueOf(48271).pow(3).multiply(BigInteger.valueOf(seed)).mod(modulus);
            Check.due("z three draws behind " + seed, Scene.z(x), due.longValue());
        }
    }

    private static void seedRange() {
        Doc.says("Promise 6", "`z`: 1 to 2147483646");
        Doc.says("Promise 6", "Throws `IllegalArgumentException` if a number is out of range");
        Edge.range("seed", Pegdraw::new, 1, 2147483646, Pegdraw::seed);
        Edge.inAllPhases("seed", (x, n) -> x.seed(5));
        Pegdraw x = new Pegdraw();
        x.seed(2147483646);
        Check.due("the greatest z is kept", x.seed(1), 2147483646);
        Check.due("the least z is kept", x.seed(7), 1);
    }

    private static void newBankIsEmpty() {
        Doc.says("Promise 1", "Creates a bank without swims, fish and anglers.");
        Pegdraw x = new Pegdraw();
        Check.index("swim 0 of a new bank", x, () -> x.feedIn(0));
        Check.index("fish 0 of a new bank", x, () -> x.state(0));
        Check.index("angler 0 of a new bank", x, () -> x.won(0));
        Check.due("the first swim", x.swim(1, 0), 0);
        Check.due("the first fish", x.stock(0, 0, 5), 0);
        Check.due("the first angler", x.angler(1), 0);
    }

    private static void tenSwims() {
        Doc.says("Terms", "At most 10 swims are numbered from 0, down the river");
        Pegdraw x = new Pegdraw();
        for (int i = 0; i < 10; i++) {
            Check.due("swim", x.swim(1 + i % 9, i), i);
        }
        Check.due("the tenth is there", x.feedIn(9), 0);
    }

    private static void eleventhSwim() {
        Doc.says("Promise 2", "Throws `IllegalStateException` if there are 10");
        Edge.taken("a tenth swim", Scene.bank(9, 0), 9, (x, n) -> x.swim(n, n));
        Pegdraw x = Scene.bank(10, 0);
        Check.state("an eleventh swim", x, () -> x.swim(1, 0));
        Check.index("it is not there", x, () -> x.fishIn(10));
    }

    private static void depthRange() {
        Doc.says("Terms", "each with a depth of 1 to 9");
        Doc.says("Promise 2", "`depth`: 1 to 9");
        Doc.says("Promise 2", "Throws `IllegalArgumentException` if a number is out of range");
        Edge.range("depth", Pegdraw::new, 1, 9, (x, depth) -> x.swim(depth, 0));
    }

    private static void snagsRange() {
        Doc.says("Terms", "and snags of 0 to 9");
        Doc.says("Promise 2", "`snags`: 0 to 9");
        Edge.range("snags", Pegdraw::new, 0, 9, (x, snags) -> x.swim(1, snags));
    }

    private static void swimWhilePegsAreDrawn() {
        Doc.says("Promise 2", "Throws `UnsupportedOperationException` if pegs are drawn");
        Edge.onlyIn("n", "swim", (x, n) -> x.swim(1, 0));
    }

    private static void swimWithSeveralFaults() {
        Doc.says("Terms", "the exception that is listed first is thrown");
        Pegdraw drawn = Scene.bank(9, 0, 1, 1);
        drawn.draw();
        Check.argument("a wrong depth, pegs being drawn", drawn, () -> drawn.swim(0, 0));
        Check.argument("wrong snags, pegs being drawn", drawn, () -> drawn.swim(1, 10));
        Pegdraw full = Scene.bank(10, 0, 1, 1);
        Check.argument("a wrong eleventh swim", full, () -> full.swim(10, 0));
        full.draw();
        Check.unsupported("an eleventh swim, pegs being drawn", full, () -> full.swim(1, 0));
        Check.argument("a wrong eleventh swim, pegs being drawn", full, () -> full.swim(1, -1));
    }

    private static void noFeedAtFirst() {
        Doc.says("Terms", "feed of 0 to 99, none at first");
        Pegdraw x = Scene.bank(10, 0);
        for (int i = 0; i < 10; i++) {
            Check.due("feed in swim " + i, x.feedIn(i), 0);
        }
    }

    private static void openAtFirst() {
        Doc.says("Terms", "and one peg, open at first");
        Pegdraw x = Scene.bank(10, 0);
        for (int i = 0; i < 10; i++) {
            Check.due("open swim " + i, x.open(i, false), true);
            Check.due("closed swim " + i, x.open(i, false), false);
            Check.due("still closed swim " + i, x.open(i, true), false);
            Check.due("opened swim " + i, x.open(i, true), true);
        }
    }

    private static void openOfNoSwim() {
        Doc.says("Promise 3", "Throws `IndexOutOfBoundsException` if there is no such swim");
        Edge.swims("open", (x, swim) -> x.open(swim, false) ? 1 : 0);
        Edge.swims("close", (x, swim) -> x.open(swim, true) ? 1 : 0);
    }

    private static void openWhilePegsAreDrawn() {
        Doc.says("Promise 3", "Throws `UnsupportedOperationException` if pegs are drawn");
        Edge.onlyIn("n", "open", (x, swim) -> x.open(swim, true) ? 1 : 0);
        Edge.onlyIn("n", "close", (x, swim) -> x.open(swim, false) ? 1 : 0);
        Pegdraw x = Edge.inPhase('d');
        Check.index("open of no swim, pegs being drawn", x, () -> x.open(3, true) ? 1 : 0);
    }

    private static void flowRange() {
        Doc.says("Terms", "The flow is 0 to 9, 3 at first");
        Doc.says("Promise 4", "`flow`: 0 to 9");
        Doc.says("Promise 4", "Throws `IllegalArgumentException` if a number is out of range");
        Edge.range("flow", Pegdraw::new, 0, 9, Pegdraw::setFlow);
        Edge.inAllPhases("flow", Pegdraw::setFlow);
        Pegdraw x = new Pegdraw();
        Check.due("flow at first", x.setFlow(9), 3);
        Check.due("the greatest flow is kept", x.setFlow(0), 9);
        Check.due("the least flow is kept", x.setFlow(5), 0);
    }

    private static void warmthRange() {
        Doc.says("Terms", "the warmth 0 to 30, 15 at first");
        Doc.says("Promise 5", "`warmth`: 0 to 30");
        Doc.says("Promise 5", "Throws `IllegalArgumentException` if a number is out of range");
        Edge.range("warmth", Pegdraw::new, 0, 30, Pegdraw::setWarmth);
        Edge.inAllPhases("warmth", Pegdraw::setWarmth);
        Pegdraw x = new Pegdraw();
        Check.due("warmth at first", x.setWarmth(30), 15);
        Check.due("the greatest warmth is kept", x.setWarmth(0), 30);
        Check.due("the least warmth is kept", x.setWarmth(5), 0);
    }

    private static void minuteAtFirst() {
        Doc.says("Terms", "The minute is 0 at first");
        Check.due("minute of a new bank", new Pegdraw().minute(), 0);
    }
}
