/** The terms of anglers and matches, and promises 13 to 18. */
final class DrawEdges {
    private DrawEdges() {
    }

    static void run() {
        eightAnglers();
        ninthAngler();
        skillRange();
        anglerWhilePegsAreDrawn();
        anglerWithSeveralFaults();
        fewAnglers();
        fewPegs();
        drawWhilePegsAreDrawn();
        pegsByRests();
        pegsThatAreLeft();
        goldenByRest();
        potByAnglers();
        onePegEach();
        pegOfNobody();
        pegOfNone();
        stakeRange();
        stakeByPhase();
        stakeOnce();
        stakeWithSeveralFaults();
        beginRange();
        beginByPhase();
        beginLate();
        endOfTheMatch();
        phases();
    }

    private static Pegdraw withAnglers(int anglers) {
        Pegdraw x = Scene.bank(10, 0);
        for (int i = 0; i < anglers; i++) {
            Check.due("angler", x.angler(1 + i), i);
        }
        return x;
    }

    private static void eightAnglers() {
        Doc.says("Terms", "At most 8 are numbered from 0");
        Check.due("the eighth", withAnglers(8).owes(7), 0);
    }

    private static void ninthAngler() {
        Doc.says("Promise 13", "Throws `IllegalStateException` if there are 8");
        Edge.taken("an eighth angler", withAnglers(7), 9, Pegdraw::angler);
        Pegdraw x = withAnglers(8);
        Check.state("a ninth angler", x, () -> x.angler(1));
        Check.index("the ninth is not there", x, () -> x.owes(8));
    }

    private static void skillRange() {
        Doc.says("Terms", "each of a skill of 1 to 9");
        Doc.says("Promise 13", "`skill`: 1 to 9");
        Doc.says("Promise 13", "Throws `IllegalArgumentException` if a number is out of range");
        Edge.range("skill", Pegdraw::new, 1, 9, Pegdraw::angler);
    }

    private static void anglerWhilePegsAreDrawn() {
        Doc.says("Promise 13", "Throws `UnsupportedOperationException` if pegs are drawn");
        Edge.onlyIn("n", "angler", (x, n) -> x.angler(1));
    }

    private static void anglerWithSeveralFaults() {
        Doc.says("Terms", "If several conditions of a method apply, the exception that is listed first is thrown.");
        Pegdraw drawn = Edge.inPhase('d');
        Check.argument("a wrong angler, pegs being drawn", drawn, () -> drawn.angler(0));
        Pegdraw full = withAnglers(8);
        Check.argument("a wrong ninth angler", full, () -> full.angler(10));
        full.draw();
        Check.unsupported("a ninth angler, pegs being drawn", full, () -> full.angler(1));
        Check.argument("a wrong ninth angler, pegs being drawn", full, () -> full.angler(10));
    }

    private static void fewAnglers() {
        Doc.says("Promise 14", "there are fewer than two anglers");
        Pegdraw none = withAnglers(0);
        Check.unsupported("draw for nobody", none, none::draw);
        Pegdraw one = withAnglers(1);
        Check.unsupported("draw for one", one, one::draw);
        Pegdraw empty = new Pegdraw();
        Check.unsupported("draw without swims and anglers", empty, empty::draw);
        Edge.taken("draw for two", withAnglers(2), 0, (x, n) -> x.draw());
        Edge.taken("draw for eight", withAnglers(8), 0, (x, n) -> x.draw());
    }

    private static void fewPegs() {
        Doc.says("Promise 14", "or fewer open pegs than anglers");
        Pegdraw none = new Pegdraw();
        none.angler(1);
        none.angler(1);
        Check.unsupported("draw without swims", none, none::draw);
        Pegdraw one = Scene.bank(1, 0, 1, 1);
        Check.unsupported("draw of one peg for two", one, one::draw);
        Pegdraw x = withAnglers(8);
        x.open(0, false);
        x.open(9, false);
        x.open(5, false);
        Check.unsupported("draw of seven open pegs for eight", x, x::draw);
        x.open(5, true);
        Edge.taken("draw of eight open pegs for eight", x, 0, (some, n) -> some.draw());
        for (int i = 0; i < 8; i++) {
            Check.isTrue("an open peg", x.pegOf(i) != 0 && x.pegOf(i) != 9);
        }
    }

    private static void drawWhilePegsAreDrawn() {
        Doc.says("Promise 14", "Throws `UnsupportedOperationException` if pegs are drawn");
        Doc.says("Terms", "as all were, the match is over, its results are told, and pegs can be drawn again.");
        Edge.onlyIn("n", "draw", (x, n) -> x.draw());
        Pegdraw wide = withAnglers(2);
        wide.draw();
        Check.unsupported("draw again, eight open pegs being left", wide, wide::draw);
        Pegdraw x = Edge.inPhase('e');
        x.weigh(0, 0);
        Check.unsupported("draw, as one net was weighed", x, x::draw);
        Check.due("matches that are over", x.matches(), 0);
        x.weigh(1, 0);
        Check.due("matches that are over", x.matches(), 1);
        Edge.taken("draw, as all were weighed", x, 0, (some, n) -> some.draw());
    }

    private static void pegsByRests() {
        Doc.says("Terms", "in the order of swims, by the rest of a draw of z by their number");
        int[][] pegs = {{0, 1}, {9, 8}, {0, 9}, {9, 0}, {4, 5}, {5, 4}};
        for (int[] one : pegs) {
            Scene.draw(Scene.bank(10, 0, 1, 1), 10, one, 0);
        }
        Pegdraw x = Scene.bank(2, 0, 1, 1);
        x.seed(Seeds.withRests(2, 1, 1, 0, 2, 0));
        Check.due("a rest by two, then by one", x.draw(), 1);
        Check.due("the one that was left", x.pegOf(1), 0);
    }

    private static void pegsThatAreLeft() {
        Doc.says("Terms", "To draw pegs gives each angler, by numbers, one of the open pegs that are left");
        Pegdraw x = Scene.bank(5, 0, 1, 1, 1);
        x.open(0, false);
        x.open(3, false);
        x.seed(Seeds.withRests(3, 1, 2, 1, 1, 0, 3, 1));
        Check.due("golden", x.draw(), 4);
        int[] due = {2, 4, 1};
        for (int i = 0; i < 3; i++) {
            Check.due("peg of " + i, x.pegOf(i), due[i]);
        }
    }

    private static void goldenByRest() {
        Doc.says("Terms", "then the golden peg is one of those given, in the order of anglers, likewise");
        for (int golden = 0; golden < 3; golden++) {
            Scene.draw(Scene.bank(4, 0, 1, 1, 1), 4, new int[] {3, 0, 1}, golden);
        }
    }

    private static void potByAnglers() {
        Doc.says("Terms", "The pot, 0 at first, becomes 10 more for each angler.");
        Check.due("pot at first", new Pegdraw().pot(), 0);
        for (int anglers = 2; anglers <= 8; anglers++) {
            Pegdraw x = withAnglers(anglers);
            Check.due("pot before the draw", x.pot(), 0);
            x.draw();
            Check.due("pot for " + anglers, x.pot(), 10 * anglers);
        }
    }

    private static void onePegEach() {
        Doc.says("Terms", "a peg has one angler");
        for (int seed = 1; seed < 200; seed++) {
            Pegdraw x = withAnglers(8);
            x.seed(seed);
            int golden = x.draw();
            boolean[] given = new boolean[10];
            for (int i = 0; i < 8; i++) {
                Check.isTrue("no peg is given twice by seed " + seed, !given[x.pegOf(i)]);
                given[x.pegOf(i)] = true;
            }
            Check.isTrue("the golden peg is given by seed " + seed, given[golden]);
        }
    }

    private static void pegOfNobody() {
        Doc.says("Promise 15", "Throws `IndexOutOfBoundsException` if there is no such angler");
        Edge.anglers("pegOf", Pegdraw::pegOf);
        Pegdraw x = Edge.inPhase('n');
        Check.index("pegOf nobody, before the draw", x, () -> x.pegOf(2));
    }

    private static void pegOfNone() {
        Doc.says("Promise 15", "Throws `NoSuchElementException` if none is drawn");
        Pegdraw before = Edge.inPhase('n');
        Check.noSuch("pegOf before the draw", before, () -> before.pegOf(0));
        for (char phase : "dme".toCharArray()) {
            Check.due("pegOf in phase " + phase, Edge.inPhase(phase).pegOf(1), 1);
        }
        Pegdraw over = Edge.over();
        Check.noSuch("pegOf behind the match", over, () -> over.pegOf(0));
        Pegdraw late = Edge.over();
        late.angler(1);
        Check.noSuch("pegOf a new one", late, () -> late.pegOf(2));
    }

    private static void stakeRange() {
        Doc.says("Promise 16", "`cents`: 1 to 50");
        Doc.says("Promise 16", "Throws `IllegalArgumentException` if a number is out of range");
        Edge.range("stake", () -> Edge.inPhase('d'), 1, 50, (x, cents) -> x.stake(0, cents));
        Doc.says("Promise 16", "Throws `IndexOutOfBoundsException` if there is no such angler");
        Edge.numbers("stake of angler", anglers -> {
            Pegdraw x = withAnglers(anglers);
            if (anglers > 0) {
                x.draw();
            }
            return x;
        }, 2, 8, (x, angler) -> x.stake(angler, 1));
        Pegdraw x = withAnglers(8);
        x.draw();
        for (int i = 0; i < 8; i++) {
            Check.due("in the hat", x.stake(i, 50), 50 * (i + 1));
        }
    }

    private static void stakeByPhase() {
        Doc.says("Promise 16", "Throws `UnsupportedOperationException` if no pegs are drawn, the match was begun");
        Doc.says("Terms", "Behind that stakes are put into the hat");
        Edge.onlyIn("d", "stake", (x, angler) -> x.stake(angler, 50));
    }

    private static void stakeOnce() {
        Doc.says("Promise 16", "or the angler staked");
        Pegdraw x = Edge.inPhase('d');
        Check.due("stake", x.stake(0, 1), 1);
        Check.unsupported("stake again", x, () -> x.stake(0, 1));
        Check.due("stake of the other", x.stake(1, 50), 51);
        Check.unsupported("stake of the other again", x, () -> x.stake(1, 50));
        Scene.end(x);
        Scene.weighAll(x, 2);
        x.draw();
        Check.due("stake for the next match", x.stake(0, 2), 2);
        Check.unsupported("stake again for the next match", x, () -> x.stake(0, 2));
    }

    private static void stakeWithSeveralFaults() {
        Doc.says("Terms", "If several conditions of a method apply, the exception that is listed first is thrown.");
        Pegdraw early = Edge.inPhase('n');
        Check.index("stake of nobody, before the draw", early, () -> early.stake(2, 1));
        Check.index("wrong stake of nobody, before the draw", early, () -> early.stake(-1, 0));
        Check.argument("wrong stake, before the draw", early, () -> early.stake(0, 51));
        Pegdraw drawn = Edge.inPhase('d');
        Check.index("wrong stake of nobody", drawn, () -> drawn.stake(2, 51));
        drawn.stake(0, 1);
        Check.argument("wrong stake again", drawn, () -> drawn.stake(0, 0));
        drawn.begin(10);
        Check.argument("wrong stake in the match", drawn, () -> drawn.stake(1, 0));
    }

    private static void beginRange() {
        Doc.says("Promise 17", "`minutes`: 10 to 300");
        Doc.says("Promise 17", "Throws `IllegalArgumentException` if a number is out of range");
        Edge.range("begin", () -> Edge.inPhase('d'), 10, 300, Pegdraw::begin);
        Pegdraw x = Edge.inPhase('n');
        Check.argument("begin for too few minutes, before the draw", x, () -> x.begin(9));
        Check.argument("begin for too many minutes, before the draw", x, () -> x.begin(301));
        Pegdraw y = Edge.inPhase('m');
        Check.argument("begin for too many minutes, in the match", y, () -> y.begin(301));
    }

    private static void beginByPhase() {
        Doc.says("Promise 17", "Throws `UnsupportedOperationException` if no pegs are drawn, or it was begun");
        Edge.onlyIn("d", "begin", (x, n) -> x.begin(10));
    }

    private static void beginLate() {
        Doc.says("Promise 17", "Returns the minute in which it ends, perhaps above 9999.");
        int[][] minutesAndEnds = {{0, 10}, {9699, 9999}, {9700, 10000}, {9999, 10299}};
        for (int[] one : minutesAndEnds) {
            Pegdraw x = Edge.inPhase('d');
            Scene.passTo(x, one[0]);
            Check.due("begin", x.begin(one[0] == 0 ? 10 : 300), one[1]);
        }
        Pegdraw x = Edge.inPhase('d');
        Scene.passTo(x, 9699);
        x.begin(300);
        Scene.passTo(x, 9999);
        Check.due("a match that ends in the last minute", x.phase(), 'e');
        Pegdraw y = Edge.inPhase('d');
        Scene.passTo(y, 9700);
        y.begin(300);
        Scene.passTo(y, 9999);
        Check.due("a match that would end behind it", y.phase(), 'm');
        Check.unsupported("its nets are not weighed", y, () -> y.weigh(0, 0));
    }

    private static void endOfTheMatch() {
        Doc.says("Terms", "and the match is begun for so many minutes");
        Doc.says("Terms", "it ends as they are gone by, then all lines are out");
        int[] lengths = {10, 11, 299, 300};
        for (int minutes : lengths) {
            Pegdraw x = Edge.inPhase('d');
            Scene.passTo(x, 7);
            Check.due("end", x.begin(minutes), 7 + minutes);
            x.cast(0, 0);
            x.cast(1, 1);
            Scene.passTo(x, 6 + minutes);
            Check.due("phase a minute before the end", x.phase(), 'm');
            Check.due("line a minute before the end", x.lineOf(0) + x.lineOf(1), 2);
            x.pass(1);
            Check.due("phase in the end", x.phase(), 'e');
            Check.noSuch("line in the end", x, () -> x.lineOf(0));
            Check.noSuch("line of the other in the end", x, () -> x.reel(1));
        }
        Pegdraw x = Edge.inPhase('m');
        x.cast(0, 0);
        Check.due("pass beyond the end", x.pass(120), 120);
        Check.due("phase beyond the end", x.phase(), 'e');
        Check.noSuch("line beyond the end", x, () -> x.lineOf(0));
    }

    private static void phases() {
        Doc.says("Promise 18", "Returns 'n' no pegs are drawn, 'd' they are, 'm' a match goes on, 'e' it ended");
        Check.due("phase of a new bank", new Pegdraw().phase(), 'n');
        Check.due("phase behind a match", Edge.over().phase(), 'n');
        Pegdraw x = Edge.inPhase('d');
        x.pass(120);
        Check.due("no match begins by itself", x.phase(), 'd');
        Pegdraw y = Edge.inPhase('e');
        y.pass(120);
        Check.due("no net is weighed by itself", y.phase(), 'e');
        y.weigh(1, 0);
        Check.due("one of two is weighed", y.phase(), 'e');
    }
}
