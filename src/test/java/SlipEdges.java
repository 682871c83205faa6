/** The terms of slips, and promises 29 to 32. */
final class SlipEdges {
    private SlipEdges() {
    }

    static void run() {
        twoScales();
        errorRange();
        errorOfOneScale();
        weighByNobody();
        weighByScale();
        weighByPhase();
        weighOnce();
        weighWithSeveralFaults();
        slipWithTheError();
        slipIsHeldAt0();
        emptyNet();
        backIntoTheWater();
        scalesFrighten();
        fishAreWeighedOnce();
        claimByNobody();
        claimByPhase();
        claimBeforeTheScale();
        claimOnce();
        claimOfTheLast();
        claimOfTheNextMatch();
        claimBecomesTheTrueWeight();
        slipOfNobody();
        noSlip();
        lastSlip();
    }

    /** Three swims with anglers at the first and at the last one, whose match ended with fish of the lengths. */
    private static Pegdraw ended(int first, int second) {
        Pegdraw x = Scene.bank(3, 0, 9, 9);
        x.setLeast(0, 5);
        Scene.draw(x, 3, new int[] {0, 2}, 0);
        Scene.fish(x, first, second);
        return x;
    }

    private static void twoScales() {
        Doc.says("Terms", "There are two scales, 0 and 1");
        Doc.says("Promise 29", "`scale`: 0 or 1");
        Edge.range("scale", Pegdraw::new, 0, 1, (x, scale) -> x.setError(scale, 0));
        Edge.inAllPhases("setError", (x, scale) -> x.setError(scale, 1));
    }

    private static void errorRange() {
        Doc.says("Terms", "each with an error of -50 to 50, 0 at first");
        Doc.says("Promise 29", "`grams`: -50 to 50");
        Doc.says("Promise 29", "Throws `IllegalArgumentException` if a number is out of range");
        for (int scale = 0; scale < 2; scale++) {
            int one = scale;
            Edge.range("error", Pegdraw::new, -50, 50, (x, grams) -> x.setError(one, grams));
            Check.due("error at first", new Pegdraw().setError(one, 1), 0);
        }
    }

    private static void errorOfOneScale() {
        Doc.says("Promise 29", "Returns the one before.");
        Pegdraw x = new Pegdraw();
        x.setError(0, 50);
        x.setError(1, -50);
        Check.due("the greatest error", x.setError(0, -50), 50);
        Check.due("the least error", x.setError(1, 50), -50);
        Check.due("the least error of scale 0", x.setError(0, 0), -50);
        Check.due("the greatest error of scale 1", x.setError(1, 0), 50);
    }

    private static Pegdraw endedFor(int anglers) {
        Pegdraw x = Edge.matchOf(anglers);
        if (anglers > 0) {
            Scene.end(x);
        }
        return x;
    }

    private static void weighByNobody() {
        Doc.says("Promise 30", "Throws `IndexOutOfBoundsException` if there is no such angler");
        Edge.numbers("weigh", SlipEdges::endedFor, 2, 8, (x, angler) -> x.weigh(angler, 0));
    }

    private static void weighByScale() {
        Doc.says("Promise 30", "`scale`: 0 or 1");
        Doc.says("Promise 30", "Throws `IllegalArgumentException` if a number is out of range");
        Edge.range("weigh by scale", () -> Edge.inPhase('e'), 0, 1, (x, scale) -> x.weigh(0, scale));
    }

    private static void weighByPhase() {
        Doc.says("Promise 30", "Throws `UnsupportedOperationException` if no match ended");
        Doc.says("Terms", "Then nets are weighed");
        Edge.onlyIn("e", "weigh", (x, angler) -> x.weigh(angler, 1));
    }

    private static void weighOnce() {
        Doc.says("Promise 30", "or the net was weighed");
        Pegdraw x = Edge.matchOf(8);
        Scene.end(x);
        for (int i = 0; i < 7; i++) {
            int angler = i;
            x.weigh(angler, 0);
            Check.unsupported("weigh again", x, () -> x.weigh(angler, 1));
            Check.unsupported("weigh the first again", x, () -> x.weigh(0, 0));
            Check.due("not over", x.matches(), 0);
        }
        x.weigh(7, 0);
        Check.due("over", x.matches(), 1);
        Check.unsupported("weigh behind the match", x, () -> x.weigh(7, 0));
        x.draw();
        x.begin(10);
        x.pass(10);
        Edge.taken("weigh in the next match", x, 7, (some, angler) -> some.weigh(angler, 0));
    }

    private static void weighWithSeveralFaults() {
        Doc.says("Terms", "If several conditions of a method apply, the exception that is listed first is thrown.");
        for (char phase : Edge.PHASES.toCharArray()) {
            Pegdraw x = Edge.inPhase(phase);
            Check.index("wrong scale for nobody in phase " + phase, x, () -> x.weigh(2, 2));
            Check.index("weigh for nobody in phase " + phase, x, () -> x.weigh(-1, 0));
            Check.argument("scale -1 in phase " + phase, x, () -> x.weigh(0, -1));
            Check.argument("scale 2 in phase " + phase, x, () -> x.weigh(0, 2));
        }
        Pegdraw x = Edge.inPhase('e');
        x.weigh(0, 0);
        Check.argument("wrong scale for one who was weighed", x, () -> x.weigh(0, 2));
    }

    private static void slipWithTheError() {
        Doc.says("Terms", "A slip is what is in the net, and the error of the scale, together");
        int[] errors = {-50, -1, 0, 1, 50};
        for (int error : errors) {
            for (int scale = 0; scale < 2; scale++) {
                Pegdraw x = ended(40, 41);
                x.setError(scale, error);
                x.setError(1 - scale, 7);
                Check.due("slip", x.weigh(0, scale), 800 + error);
                Check.due("slip by the other scale", x.weigh(1, 1 - scale), 861 + 7);
            }
        }
    }

    /** Lengths of 15, 8 and 6 are 42, 6 and 2; one of 5 is 1. */
    private static void slipIsHeldAt0() {
        Doc.says("Terms", "together, 0 at least");
        int[][] lengthsAndSlips = {{15, 0}, {16, 1}, {5, 0}};
        for (int[] one : lengthsAndSlips) {
            Pegdraw x = ended(one[0], 0);
            x.setError(0, -50);
            Check.due("slip of a length of " + one[0], x.weigh(0, 0), one[1]);
            Check.due("slip", x.slip(0), one[1]);
        }
        Pegdraw y = Scene.match(0, 9);
        y.setLeast(0, 5);
        y.cast(0, 0);
        int[] lengths = {15, 8, 6};
        for (int length : lengths) {
            y.stock(0, 0, length);
            Scene.land(y, 0);
        }
        Check.due("in the net", y.netWeight(0), 50);
        Scene.end(y);
        y.setError(1, -50);
        Check.due("50 less 50", y.weigh(0, 1), 0);
        y.weigh(1, 1);
        Check.due("a slip of 0 has no point", y.points(0, 0), 0);
    }

    private static void emptyNet() {
        Doc.says("Terms", "an empty net is 0");
        int[] errors = {-50, -1, 0, 1, 50};
        for (int error : errors) {
            Pegdraw x = ended(0, 40);
            x.setError(0, error);
            Check.due("slip of an empty net by an error of " + error, x.weigh(0, 0), 0);
            Check.due("claim against it", x.claim(0), 0);
        }
    }

    private static void backIntoTheWater() {
        Doc.says("Terms", "What was weighed goes back into the water of the swim of the peg");
        Pegdraw x = Scene.match(0, 9);
        x.stock(0, 0, 40);
        x.stock(2, 0, 40);
        x.cast(1, 1);
        x.cast(0, 0);
        x.seed(Seeds.withRests(100, 0, 10, 0, 20, 0, 100, 0));
        x.pass(1);
        if (x.state(1) != 'n') {
            x.reel(0);
            Scene.land(x, 1);
        }
        Scene.end(x);
        Check.due("in nets", x.mass('n'), 1600);
        x.weigh(1, 0);
        Check.due("back in the water", x.state(1), 'w');
        Check.due("of the peg, not of the line", x.of(1, 's'), 1);
        Check.due("the other's is still in the net", x.state(0), 'n');
        Check.due("fish in the water there", x.fishIn(1), 1);
        Check.due("the net is empty", x.netWeight(1) + x.account(1, 'n'), 0);
        x.weigh(0, 0);
        Check.due("all are back", x.mass('w'), x.mass('s'));
    }

    private static void scalesFrighten() {
        Doc.says("Terms", "its fright being 10 more");
        int[][] frights = {{88, 98}, {89, 99}, {90, 99}, {95, 99}};
        for (int[] one : frights) {
            Pegdraw x = Scene.frightened(one[0]);
            Scene.land(x, 1);
            Check.due("fright in the net", x.of(0, 'f'), one[0]);
            Scene.end(x);
            x.weigh(1, 0);
            Check.due("10 more than " + one[0] + ", 99 at most", x.of(0, 'f'), one[1]);
            Check.due("sound", x.isSound(), true);
        }
        Pegdraw calm = ended(40, 0);
        calm.stock(0, 0, 90);
        calm.weigh(0, 0);
        Check.due("fright of one weighed", calm.of(0, 'f'), 10);
        Check.due("fright of one that was in the water", calm.of(1, 'f'), 0);
    }

    private static void fishAreWeighedOnce() {
        Doc.says("Terms", "Each fish is weighed once in a match");
        Pegdraw x = ended(40, 41);
        long nets = x.mass('n');
        Check.due("the slips are all that was in nets", x.weigh(1, 0) + x.weigh(0, 1), nets);
        x.draw();
        x.begin(10);
        x.pass(10);
        Check.due("nothing is left to weigh", x.weigh(0, 0) + x.weigh(1, 1), 0);
    }

    private static void claimByNobody() {
        Doc.says("Promise 31", "Throws `IndexOutOfBoundsException` if there is no such angler");
        int[] counts = {2, 8};
        for (int anglers : counts) {
            for (int angler = 0; angler < anglers; angler += anglers - 1) {
                Pegdraw x = endedFor(anglers);
                x.weigh(angler, 0);
                Check.index("claim of the one behind the last", x, () -> x.claim(anglers));
                Check.index("claim of angler -1", x, () -> x.claim(-1));
                Edge.taken("claim", x, angler, Pegdraw::claim);
            }
        }
        for (char phase : Edge.PHASES.toCharArray()) {
            Pegdraw x = Edge.inPhase(phase);
            Check.index("claim by nobody in phase " + phase, x, () -> x.claim(2));
        }
    }

    private static void claimByPhase() {
        Doc.says("Promise 31", "Throws `UnsupportedOperationException` if it is not weighed in a match that is not over");
        Edge.onlyIn("", "claim", Pegdraw::claim);
        Pegdraw x = Edge.over();
        x.draw();
        Check.unsupported("claim against a slip of the last match, pegs being drawn", x, () -> x.claim(0));
        x.begin(10);
        Check.unsupported("claim against a slip of the last match, in the match", x, () -> x.claim(0));
        x.pass(10);
        Check.unsupported("claim against a slip of the last match, before the scale", x, () -> x.claim(0));
        x.weigh(0, 0);
        Edge.taken("claim behind the scale", x, 0, Pegdraw::claim);
    }

    private static void claimBeforeTheScale() {
        Doc.says("Promise 31", "if it is not weighed");
        Pegdraw x = ended(40, 41);
        x.weigh(0, 0);
        Check.unsupported("claim for one who is not weighed", x, () -> x.claim(1));
    }

    private static void claimOnce() {
        Doc.says("Promise 31", "or it was claimed");
        Pegdraw x = ended(40, 41);
        x.setError(0, 9);
        x.weigh(1, 0);
        Check.due("claim", x.claim(1), 861);
        Check.unsupported("claim again", x, () -> x.claim(1));
        Pegdraw y = ended(40, 41);
        y.weigh(0, 0);
        Check.due("claim that changes nothing", y.claim(0), 800);
        Check.unsupported("claim again", y, () -> y.claim(0));
    }

    private static void claimOfTheLast() {
        Doc.says("Terms", "Against a slip it can be claimed as long as the match is not over, once");
        Pegdraw x = ended(40, 41);
        x.setError(0, 9);
        x.weigh(0, 0);
        x.weigh(1, 0);
        Check.unsupported("claim of the one weighed last", x, () -> x.claim(1));
        Check.unsupported("claim of the one weighed first", x, () -> x.claim(0));
        Check.due("slip as it was weighed", x.slip(0), 809);
    }

    private static void claimOfTheNextMatch() {
        Doc.says("Terms", "as long as the match is not over, once");
        Pegdraw x = ended(40, 41);
        x.weigh(0, 0);
        x.claim(0);
        x.weigh(1, 0);
        Scene.draw(x, 3, new int[] {0, 2}, 0);
        Scene.fish(x, 42, 0);
        x.setError(1, -9);
        Check.due("slip", x.weigh(0, 1), 917);
        Check.due("claim, once for each match", x.claim(0), 926);
        Check.unsupported("claim again", x, () -> x.claim(0));
    }

    private static void claimBecomesTheTrueWeight() {
        Doc.says("Terms", "it becomes the true weight");
        int[] errors = {-50, 0, 50};
        for (int error : errors) {
            Pegdraw x = ended(15, 41);
            x.setError(0, error);
            x.weigh(0, 0);
            x.setError(0, 3);
            Check.due("claim", x.claim(0), 42);
            Check.due("slip", x.slip(0), 42);
            x.weigh(1, 1);
            Check.due("slip behind the match", x.slip(0), 42);
        }
    }

    private static void slipOfNobody() {
        Doc.says("Promise 32", "Throws `IndexOutOfBoundsException` if there is no such angler");
        Edge.numbers("slip", anglers -> {
            Pegdraw x = endedFor(anglers);
            for (int i = 0; i < anglers; i++) {
                x.weigh(i, 0);
            }
            return x;
        }, 2, 8, Pegdraw::slip);
        Pegdraw x = Edge.inPhase('n');
        Check.index("slip of nobody, where no slip is", x, () -> x.slip(2));
    }

    private static void noSlip() {
        Doc.says("Promise 32", "Throws `NoSuchElementException` if there is none");
        for (char phase : Edge.PHASES.toCharArray()) {
            Pegdraw x = Edge.inPhase(phase);
            Check.noSuch("slip in phase " + phase, x, () -> x.slip(0));
        }
        Pegdraw x = ended(40, 0);
        x.weigh(1, 0);
        Check.due("a slip of 0 is one", x.slip(1), 0);
        Check.noSuch("slip of the one who is not weighed", x, () -> x.slip(0));
        x.weigh(0, 0);
        x.angler(9);
        Check.noSuch("slip of a new one", x, () -> x.slip(2));
    }

    private static void lastSlip() {
        Doc.says("Promise 32", "Returns the slip.");
        Pegdraw x = ended(40, 41);
        Scene.weighAll(x, 2);
        for (char phase : "ndme".toCharArray()) {
            if (phase == 'd') {
                x.draw();
            } else if (phase == 'm') {
                x.begin(10);
            } else if (phase == 'e') {
                x.pass(10);
            }
            Check.due("phase", x.phase(), phase);
            Check.due("slip of the last match", x.slip(0), 800);
            Check.due("slip of the last match", x.slip(1), 861);
        }
        x.weigh(0, 0);
        Check.due("slip of this match", x.slip(0), 0);
        Check.due("slip of the last match", x.slip(1), 861);
    }
}
