/** The terms of lines, and promises 19 to 23 and 26. */
final class LineEdges {
    private LineEdges() {
    }

    static void run() {
        castByNobody();
        castRange();
        castToNoSwim();
        castToNoSwimWithoutPegs();
        castByPhase();
        castWithSeveralFaults();
        castBeside();
        ownLineIsOutFirst();
        guestsCross();
        hostKeepsTheLine();
        hostCrossesAGuest();
        crossingsAreCounted();
        reelByNobody();
        lineThatIsNotIn();
        linesInAMatchAlone();
        feedByNobody();
        feedRange();
        feedByPhase();
        feedWithSeveralFaults();
        feedIsHeldAt99();
        feedInNoSwim();
    }

    private static long cast(Pegdraw x, int angler, int beside) {
        return x.cast(angler, beside) ? 1 : 0;
    }

    /** Ten swims, anglers at the first and at the last one, in a match. */
    private static Pegdraw atBothEnds() {
        Pegdraw x = Scene.bank(10, 0, 1, 1);
        Scene.draw(x, 10, new int[] {0, 9}, 0);
        x.begin(300);
        return x;
    }

    /** Three swims, anglers at the first and at the last one, in a match: the middle one is beside both. */
    private static Pegdraw aroundOne() {
        Pegdraw x = Scene.bank(3, 0, 1, 1);
        Scene.draw(x, 3, new int[] {0, 2}, 0);
        x.begin(300);
        return x;
    }

    private static void castByNobody() {
        Doc.says("Promise 19", "Throws `IndexOutOfBoundsException` if there is no such angler");
        Edge.anglers("cast", (x, angler) -> cast(x, angler, 0));
    }

    private static void castRange() {
        Doc.says("Promise 19", "`beside`: -1 to the swim up the river, 0 to the own one, 1 to that down the river");
        Doc.says("Promise 19", "Throws `IllegalArgumentException` if it is out of range");
        Edge.range("cast", () -> {
            Pegdraw x = Scene.bank(5, 0, 1, 1);
            Scene.draw(x, 5, new int[] {2, 0}, 0);
            x.begin(10);
            return x;
        }, -1, 1, (x, beside) -> cast(x, 0, beside));
    }

    private static void castToNoSwim() {
        Doc.says("Promise 19", "or, pegs being drawn, there is no such swim");
        Pegdraw x = atBothEnds();
        Check.argument("cast up from the first", x, () -> cast(x, 0, -1));
        Check.argument("cast down from the last", x, () -> cast(x, 1, 1));
        Check.due("cast down from the first", x.cast(0, 1), true);
        Check.due("line", x.lineOf(0), 1);
        Check.due("cast up from the last", x.cast(1, -1), true);
        Check.due("line", x.lineOf(1), 8);
        Check.argument("cast up from the first, the line being in", x, () -> cast(x, 0, -1));
        Check.due("line as it was", x.lineOf(0), 1);
        for (char phase : "dme".toCharArray()) {
            Pegdraw y = Edge.inPhase(phase);
            Check.argument("cast up from the first in phase " + phase, y, () -> cast(y, 0, -1));
        }
    }

    private static void castToNoSwimWithoutPegs() {
        Doc.says("Promise 19", "pegs being drawn");
        for (int beside = -1; beside <= 1; beside++) {
            int side = beside;
            Pegdraw early = Edge.inPhase('n');
            Check.unsupported("cast " + side + " before the draw", early, () -> cast(early, 0, side));
            Pegdraw over = Edge.over();
            Check.unsupported("cast " + side + " behind the match", over, () -> cast(over, 0, side));
            Pegdraw dry = new Pegdraw();
            dry.angler(1);
            Check.unsupported("cast " + side + " without swims", dry, () -> cast(dry, 0, side));
        }
    }

    private static void castByPhase() {
        Doc.says("Promise 19", "Throws `UnsupportedOperationException` if no match goes on");
        Doc.says("Terms", "lines are cast in it alone");
        Edge.onlyIn("m", "cast", (x, angler) -> cast(x, angler, 0));
        Edge.onlyIn("m", "cast down", (x, angler) -> cast(x, angler, 1));
    }

    private static void castWithSeveralFaults() {
        Doc.says("Terms", "If several conditions of a method apply, the exception that is listed first is thrown.");
        for (char phase : Edge.PHASES.toCharArray()) {
            Pegdraw x = Edge.inPhase(phase);
            Check.index("cast too far by nobody in phase " + phase, x, () -> cast(x, 2, 2));
            Check.index("cast by nobody in phase " + phase, x, () -> cast(x, -1, 0));
            Check.argument("cast too far in phase " + phase, x, () -> cast(x, 0, 2));
            Check.argument("cast too far up in phase " + phase, x, () -> cast(x, 1, -2));
        }
    }

    private static void castBeside() {
        Doc.says("Terms", "A line is cast to the own swim, or to one beside it");
        for (int beside = -1; beside <= 1; beside++) {
            Pegdraw x = Scene.bank(5, 0, 1, 1);
            Scene.draw(x, 5, new int[] {2, 0}, 0);
            x.begin(10);
            Check.due("cast " + beside, x.cast(0, beside), true);
            Check.due("line", x.lineOf(0), 2 + beside);
        }
        Pegdraw x = Scene.bank(3, 0, 1, 1);
        x.open(1, false);
        x.seed(Seeds.withRests(2, 0, 1, 0, 2, 0));
        x.draw();
        x.begin(10);
        Check.due("cast to a swim whose peg is closed", x.cast(0, 1), true);
        Check.due("line there", x.lineOf(0), 1);
    }

    private static void ownLineIsOutFirst() {
        Doc.says("Terms", "the own one that is in is out first");
        Pegdraw x = aroundOne();
        x.cast(0, 0);
        Check.due("cast to where the own line is", x.cast(0, 0), true);
        Check.due("no line crossed", x.crossed(), 0);
        Check.due("cast to another swim", x.cast(0, 1), true);
        Check.due("line", x.lineOf(0), 1);
        Check.due("the other's cast to where it was", x.cast(1, 0), true);
        x.cast(1, -1);
        Check.noSuch("the own one is out though the cast crossed", x, () -> x.lineOf(1));
    }

    private static void guestsCross() {
        Doc.says("Terms", "Where a line of another angler lies, lines cross: the one who cast later gets no line in");
        Doc.says("Terms", "and the line that lies there is out, too");
        Pegdraw x = aroundOne();
        x.cast(1, -1);
        Check.due("the later cast", x.cast(0, 1), false);
        Check.noSuch("no line of the later one", x, () -> x.lineOf(0));
        Check.noSuch("no line of the other guest", x, () -> x.lineOf(1));
        Check.due("the swim is free then", x.cast(0, 1), true);
        Check.due("line", x.lineOf(0), 1);
    }

    private static void hostKeepsTheLine() {
        Doc.says("Terms", "unless its angler sits at that swim");
        Pegdraw x = Scene.match(0, 1);
        x.cast(1, 0);
        Check.due("cast onto the line of who sits there", x.cast(0, 1), false);
        Check.due("it stays", x.lineOf(1), 1);
        Check.noSuch("the guest has none", x, () -> x.lineOf(0));
        Check.due("cast onto it again", x.cast(0, 1), false);
        Check.due("it stays", x.lineOf(1), 1);
        Check.due("crossed", x.crossed(), 2);
    }

    private static void hostCrossesAGuest() {
        Doc.says("Terms", "the line that lies there is out, too, unless its angler sits at that swim");
        Pegdraw x = Scene.match(0, 1);
        x.cast(0, 1);
        Check.due("cast to the own swim, onto a guest's line", x.cast(1, 0), false);
        Check.noSuch("the guest's line is out", x, () -> x.lineOf(0));
        Check.noSuch("and no line of who sits there is in", x, () -> x.lineOf(1));
    }

    private static void crossingsAreCounted() {
        Doc.says("Promise 26", "Returns how often.");
        Pegdraw x = aroundOne();
        Check.due("crossed at first", x.crossed(), 0);
        for (int i = 1; i <= 3; i++) {
            x.cast(0, 1);
            Check.due("no crossing yet", x.crossed(), i - 1);
            x.cast(1, -1);
            Check.due("both lines out count once", x.crossed(), i);
        }
        Scene.end(x);
        Scene.weighAll(x, 2);
        Check.due("over all matches", x.crossed(), 3);
    }

    private static void reelByNobody() {
        Doc.says("Promise 20", "Throws `IndexOutOfBoundsException` if there is no such angler");
        Doc.says("Promise 21", "Throws `IndexOutOfBoundsException` if there is no such angler");
        Edge.numbers("reel", LineEdges::withLines, 2, 8, Pegdraw::reel);
        Edge.numbers("lineOf", LineEdges::withLines, 2, 8, Pegdraw::lineOf);
    }

    private static Pegdraw withLines(int anglers) {
        Pegdraw x = Edge.matchOf(anglers);
        for (int i = 0; i < anglers; i++) {
            x.cast(i, 0);
        }
        return x;
    }

    private static void lineThatIsNotIn() {
        Doc.says("Promise 20", "Throws `NoSuchElementException` if it is not in");
        Doc.says("Promise 21", "Throws `NoSuchElementException` if it is not in");
        for (char phase : Edge.PHASES.toCharArray()) {
            Pegdraw x = Edge.inPhase(phase);
            Check.noSuch("reel in phase " + phase, x, () -> x.reel(0));
            Check.noSuch("lineOf in phase " + phase, x, () -> x.lineOf(1));
            Check.index("reel of nobody in phase " + phase, x, () -> x.reel(2));
            Check.index("lineOf nobody in phase " + phase, x, () -> x.lineOf(-1));
        }
        Pegdraw x = Scene.match(0, 1);
        x.cast(1, -1);
        Check.due("lineOf one beside", x.lineOf(1), 0);
        Check.due("reel of one beside", x.reel(1), 0);
        Check.noSuch("reel again", x, () -> x.reel(1));
        Check.noSuch("lineOf, behind the reel", x, () -> x.lineOf(1));
    }

    private static void linesInAMatchAlone() {
        Doc.says("Promise 51", "lines are in only while a match goes on");
        Pegdraw x = Edge.inPhase('m');
        x.cast(0, 0);
        Scene.end(x);
        Scene.weighAll(x, 2);
        x.draw();
        x.begin(10);
        Check.noSuch("no line of the last match", x, () -> x.lineOf(0));
    }

    private static void feedByNobody() {
        Doc.says("Promise 22", "Throws `IndexOutOfBoundsException` if there is no such angler");
        Edge.anglers("feed", (x, angler) -> x.feed(angler, 1));
    }

    private static void feedRange() {
        Doc.says("Promise 22", "`balls`: 1 to 20");
        Doc.says("Promise 22", "Throws `IllegalArgumentException` if a number is out of range");
        Edge.range("feed", () -> Edge.inPhase('m'), 1, 20, (x, balls) -> x.feed(0, balls));
        Pegdraw x = Edge.inPhase('m');
        Check.due("the fewest balls", x.feed(0, 1), 1);
        Check.due("the most balls", x.feed(0, 20), 21);
    }

    private static void feedByPhase() {
        Doc.says("Promise 22", "Throws `UnsupportedOperationException` if no match goes on");
        Edge.onlyIn("m", "feed", (x, angler) -> x.feed(angler, 1));
    }

    private static void feedWithSeveralFaults() {
        Doc.says("Terms", "If several conditions of a method apply, the exception that is listed first is thrown.");
        for (char phase : Edge.PHASES.toCharArray()) {
            Pegdraw x = Edge.inPhase(phase);
            Check.index("no balls by nobody in phase " + phase, x, () -> x.feed(2, 0));
            Check.index("balls by nobody in phase " + phase, x, () -> x.feed(-1, 1));
            Check.argument("no balls in phase " + phase, x, () -> x.feed(0, 0));
            Check.argument("21 balls in phase " + phase, x, () -> x.feed(0, 21));
        }
    }

    private static void feedIsHeldAt99() {
        Doc.says("Promise 22", "Returns the feed there, 99 at most.");
        int[][] lastBallsAndFeeds = {{17, 97}, {18, 98}, {19, 99}, {20, 99}};
        for (int[] one : lastBallsAndFeeds) {
            Pegdraw x = Edge.inPhase('m');
            for (int i = 1; i <= 4; i++) {
                Check.due("feed", x.feed(1, 20), 20 * i);
            }
            Check.due("80 and " + one[0], x.feed(1, one[0]), one[1]);
            Check.due("feed there", x.feedIn(1), one[1]);
            Check.due("and one more", x.feed(1, 1), Math.min(99, one[1] + 1));
            Check.due("and twenty more", x.feed(1, 20), 99);
            Check.due("feed there", x.feedIn(1), 99);
            Check.due("feed beside", x.feedIn(0) + x.feedIn(2), 0);
        }
    }

    private static void feedInNoSwim() {
        Doc.says("Promise 23", "Throws `IndexOutOfBoundsException` if there is no such swim");
        Edge.swims("feedIn", Pegdraw::feedIn);
        Edge.inAllPhases("feedIn", Pegdraw::feedIn);
    }
}
