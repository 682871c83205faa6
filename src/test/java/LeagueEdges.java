/** The terms of results and of the league, and promises 33 to 39. */
final class LeagueEdges {
    private LeagueEdges() {
    }

    static void run() {
        sectionsAreRoundedUp();
        sectionsBySwims();
        pointsForLessAlone();
        pointForAbove0();
        winnerOfAll();
        winnerOfLikeOnes();
        potForAbove0();
        potOnTheGoldenPegAlone();
        potIs0Then();
        potCarriesOver();
        nineTenthsAreCut();
        hatOfThoseWhoStaked();
        hatOfLikeOnes();
        emptyHat();
        fundAtFirst();
        leagueWithTwoMatches();
        leagueWithThreeMatches();
        leastOfThoseThatOneWasIn();
        orderByPoints();
        orderBySlips();
        orderByNumbers();
        matchesThatAreOver();
        pointsOfNobody();
        pointsOfNoMatch();
        pointsOfOneWhoWasNotInIt();
        winnerOfNoMatch();
        totalOfNobody();
        noPlaceInTheTable();
        wonByNobody();
    }

    private static Pegdraw bank(int anglers) {
        Pegdraw x = Scene.bank(10, 0);
        x.setLeast(0, 5);
        for (int i = 0; i < anglers; i++) {
            x.angler(9);
        }
        return x;
    }

    /** A match of all anglers, by any pegs, with a fish of the length for each, or none for 0. */
    private static void fish(Pegdraw x, int... lengths) {
        x.draw();
        fishOut(x, lengths);
    }

    private static void fishOut(Pegdraw x, int... lengths) {
        Scene.fish(x, lengths);
        Scene.weighAll(x, lengths.length);
    }

    /** A match of three whose pegs are the swims 0, 1 and 2, the golden one at that angler. */
    private static void fishOfThree(Pegdraw x, int golden, int... lengths) {
        Scene.draw(x, 10, new int[] {0, 1, 2}, golden);
        fishOut(x, lengths);
    }

    private static void sectionsAreRoundedUp() {
        Doc.says("Terms", "Of the pegs given, in the order of swims, the first half, rounded up, is one section");
        for (int anglers = 2; anglers <= 8; anglers++) {
            Pegdraw x = bank(anglers);
            x.seed(2 * anglers + 1);
            x.draw();
            int[] ranks = ranksOfPegs(x, anglers);
            int[] lengths = new int[anglers];
            for (int i = 0; i < anglers; i++) {
                lengths[i] = 20 + ranks[i];
            }
            fishOut(x, lengths);
            int upper = anglers - anglers / 2;
            for (int i = 0; i < anglers; i++) {
                int due = ranks[i] < upper ? ranks[i] + 1 : ranks[i] - upper + 1;
                Check.due("points at peg " + ranks[i] + " of " + anglers, x.points(0, i), due);
            }
        }
    }

    private static int[] ranksOfPegs(Pegdraw x, int anglers) {
        int[] ranks = new int[anglers];
        for (int i = 0; i < anglers; i++) {
            for (int k = 0; k < anglers; k++) {
                ranks[i] += x.pegOf(k) < x.pegOf(i) ? 1 : 0;
            }
        }
        return ranks;
    }

    private static void sectionsBySwims() {
        Doc.says("Terms", "is one section, the others the other one");
        Pegdraw x = bank(4);
        Scene.draw(x, 10, new int[] {9, 0, 8, 1}, 0);
        fishOut(x, 41, 30, 40, 31);
        int[] due = {2, 1, 1, 2};
        for (int i = 0; i < 4; i++) {
            Check.due("points of " + i, x.points(0, i), due[i]);
        }
    }

    private static void pointsForLessAlone() {
        Doc.says("Terms", "In a section one gets a point for each other angler in it whose slip is less");
        int[][] lengthsAndPoints = {{30, 30, 1, 1}, {30, 31, 1, 2}, {31, 30, 2, 1}, {0, 0, 0, 0}, {0, 5, 0, 2}};
        for (int[] one : lengthsAndPoints) {
            Pegdraw x = bank(3);
            fishOfThree(x, 0, one[0], one[1], 90 - 1);
            Check.due("points of the first", x.points(0, 0), one[2]);
            Check.due("points of the second", x.points(0, 1), one[3]);
            Check.due("points of one alone in a section", x.points(0, 2), 1);
        }
    }

    private static void pointForAbove0() {
        Doc.says("Terms", "and 1 more if the own slip is above 0");
        int[][] lengthsAndPoints = {{0, 0}, {5, 1}};
        for (int[] one : lengthsAndPoints) {
            Pegdraw x = bank(2);
            fish(x, one[0], 89);
            Check.due("points of " + one[0], x.points(0, 0), one[1]);
        }
        Pegdraw x = bank(2);
        x.draw();
        Scene.fish(x, 15, 16);
        x.setError(0, -50);
        Scene.weighAll(x, 2);
        Check.due("a slip of 42 less 50", x.points(0, 0), 0);
        Check.due("a slip of 51 less 50", x.points(0, 1), 1);
    }

    private static void winnerOfAll() {
        Doc.says("Terms", "The winner has the greatest slip of all");
        for (int best = 0; best < 3; best++) {
            int[] lengths = {30, 30, 30};
            lengths[best] = 31;
            Pegdraw x = bank(3);
            fishOfThree(x, 0, lengths);
            Check.due("winner", x.winner(0), best);
        }
    }

    private static void winnerOfLikeOnes() {
        Doc.says("Terms", "of like ones the lowest angler");
        int[][] lengthsAndWinners = {{0, 0, 0, 0}, {0, 30, 30, 1}, {30, 0, 30, 0}, {30, 30, 30, 0}};
        for (int[] one : lengthsAndWinners) {
            Pegdraw x = bank(3);
            Scene.draw(x, 10, new int[] {2, 1, 0}, 0);
            fishOut(x, one[0], one[1], one[2]);
            Check.due("winner", x.winner(0), one[3]);
        }
    }

    private static void potForAbove0() {
        Doc.says("Terms", "with a slip above 0 and on the golden peg the winner gets the pot");
        int[][] lengthsAndCents = {{0, 0}, {5, 30}};
        for (int[] one : lengthsAndCents) {
            Pegdraw x = bank(3);
            fishOfThree(x, 0, one[0], 0, 0);
            Check.due("winner", x.winner(0), 0);
            Check.due("won with a length of " + one[0], x.won(0), one[1]);
            Check.due("pot", x.pot(), 30 - one[1]);
        }
    }

    private static void potOnTheGoldenPegAlone() {
        Doc.says("Terms", "on the golden peg the winner gets the pot");
        for (int golden = 0; golden < 3; golden++) {
            Pegdraw x = bank(3);
            fishOfThree(x, golden, 30, 31, 30);
            for (int i = 0; i < 3; i++) {
                Check.due("won by " + i, x.won(i), golden == 1 && i == 1 ? 30 : 0);
            }
            Check.due("pot", x.pot(), golden == 1 ? 0 : 30);
        }
    }

    private static void potIs0Then() {
        Doc.says("Terms", "which is 0 then");
        Pegdraw x = bank(3);
        fishOfThree(x, 2, 0, 0, 30);
        Check.due("pot then", x.pot(), 0);
        fishOfThree(x, 2, 0, 0, 31);
        Check.due("won twice", x.won(2), 60);
    }

    private static void potCarriesOver() {
        Doc.says("Terms", "becomes 10 more for each angler");
        Pegdraw x = bank(3);
        fishOfThree(x, 0, 0, 0, 0);
        fishOfThree(x, 1, 30, 0, 0);
        Check.due("pot of two matches", x.pot(), 60);
        fishOfThree(x, 0, 31, 0, 0);
        Check.due("won, of three matches", x.won(0), 90);
    }

    private static Pegdraw staked(int... cents) {
        Pegdraw x = bank(8);
        x.draw();
        for (int i = 0; i < cents.length; i++) {
            if (cents[i] > 0) {
                x.stake(i, cents[i]);
            }
        }
        Scene.end(x);
        Scene.weighAll(x, 8);
        return x;
    }

    private static void nineTenthsAreCut() {
        Doc.says("Terms", "Of what is in the hat nine tenths, cut");
        Doc.says("Terms", "the rest to the fund");
        int[][] hatsAndShares = {{1, 0}, {2, 1}, {9, 8}, {10, 9}, {11, 9}, {19, 17}, {20, 18}, {50, 45}};
        for (int[] one : hatsAndShares) {
            Pegdraw x = staked(one[0]);
            Check.due("of a hat of " + one[0], x.won(0), one[1]);
            Check.due("the rest of " + one[0], x.fund(), one[0] - one[1]);
        }
        Pegdraw full = staked(50, 50, 50, 50, 50, 50, 50, 50);
        Check.due("of a hat of 400", full.won(0), 360);
        Check.due("the rest of 400", full.fund(), 40);
    }

    private static void hatOfThoseWhoStaked() {
        Doc.says("Terms", "go to the one with the greatest slip of those who staked");
        Pegdraw x = bank(3);
        Scene.draw(x, 10, new int[] {0, 1, 2}, 1);
        x.stake(1, 10);
        x.stake(2, 10);
        fishOut(x, 40, 30, 31);
        int[] due = {0, 0, 18};
        for (int i = 0; i < 3; i++) {
            Check.due("won by " + i, x.won(i), due[i]);
        }
        Pegdraw y = bank(3);
        Scene.draw(y, 10, new int[] {0, 1, 2}, 0);
        y.stake(1, 10);
        fishOut(y, 40, 0, 31);
        Check.due("a slip of 0 alone in the hat", y.won(1), 9);
        Check.due("the pot is the winner's", y.won(0), 30);
    }

    private static void hatOfLikeOnes() {
        Doc.says("Terms", "of those who staked, of like ones the lowest");
        int[][] lengthsAndLucky = {{40, 0, 0, 1}, {40, 30, 30, 1}, {40, 29, 30, 2}, {40, 30, 29, 1}};
        for (int[] one : lengthsAndLucky) {
            Pegdraw x = bank(3);
            Scene.draw(x, 10, new int[] {0, 2, 1}, 1);
            x.stake(2, 5);
            x.stake(1, 5);
            fishOut(x, one[0], one[1], one[2]);
            Check.due("won by the lucky one", x.won(one[3]), 9);
            Check.due("fund", x.fund(), 1);
        }
    }

    private static void emptyHat() {
        Doc.says("Terms", "Of what is in the hat");
        Pegdraw x = bank(3);
        fishOfThree(x, 1, 30, 0, 0);
        Check.due("nothing is won of an empty hat", x.won(0) + x.won(1) + x.won(2), 0);
        Check.due("nothing is left of an empty hat", x.fund(), 0);
        Pegdraw y = staked(50);
        y.draw();
        Check.due("the hat is empty then", y.stake(1, 1), 1);
        Scene.end(y);
        Scene.weighAll(y, 8);
        Check.due("stakes of the last match count no more", y.won(0), 45);
        Check.due("fund of both", y.fund(), 6);
    }

    private static void fundAtFirst() {
        Doc.says("Terms", "to the fund, which is 0 at first");
        Check.due("fund at first", new Pegdraw().fund(), 0);
    }

    private static void leagueWithTwoMatches() {
        Doc.says("Terms", "In the league one has the points of all matches");
        Pegdraw x = bank(3);
        Check.due("before a match", x.total(0), 0);
        fishOfThree(x, 0, 31, 30, 0);
        Check.due("one match", x.total(0), 2);
        fishOfThree(x, 0, 0, 31, 30);
        int[] due = {2, 3, 1};
        for (int i = 0; i < 3; i++) {
            Check.due("two matches of " + i, x.total(i), due[i]);
            Check.due("no match is less", x.total(i), x.points(0, i) + x.points(1, i));
        }
    }

    private static void leagueWithThreeMatches() {
        Doc.says("Terms", "less, with three matches or more that one was in, the least of them");
        int[][] orders = {{0, 1, 2}, {0, 2, 1}, {1, 0, 2}, {1, 2, 0}, {2, 0, 1}, {2, 1, 0}};
        for (int[] order : orders) {
            Pegdraw x = bank(3);
            for (int points : order) {
                fishOfThree(x, 2, points == 0 ? 0 : 30, points == 2 ? 0 : 40, 0);
            }
            for (int i = 0; i < 3; i++) {
                Check.due("points of match " + i, x.points(i, 0), order[i]);
            }
            Check.due("0, 1 and 2, less 0", x.total(0), 3);
            Check.due("nothing at all", x.total(2), 0);
        }
        Pegdraw y = bank(3);
        for (int i = 1; i <= 5; i++) {
            fishOfThree(y, 2, 0, 30, 30);
            Check.due("matches of 1 point each, one of them less", y.total(2), i < 3 ? i : i - 1);
            Check.due("matches of 2 points each, one of them less", y.total(1), i < 3 ? 2 * i : 2 * i - 2);
        }
    }

    private static void leastOfThoseThatOneWasIn() {
        Doc.says("Terms", "with three matches or more that one was in");
        Pegdraw x = bank(2);
        fish(x, 30, 31);
        x.angler(9);
        Check.due("late one", x.total(2), 0);
        fishOfThree(x, 1, 30, 0, 40);
        fishOfThree(x, 1, 30, 0, 40);
        Check.due("three matches, 1, 2 and 2, less 1", x.total(0), 4);
        Check.due("two of three matches, nothing less", x.total(2), 2);
        fishOfThree(x, 1, 30, 0, 40);
        Check.due("three of four matches, 1 less", x.total(2), 2);
    }

    private static void orderByPoints() {
        Doc.says("Terms", "It is ordered by that");
        Pegdraw x = bank(3);
        fishOfThree(x, 1, 0, 5, 89);
        int[] due = {1, 2, 0};
        for (int i = 0; i < 3; i++) {
            Check.due("place " + i, x.table(i), due[i]);
        }
    }

    private static void orderBySlips() {
        Doc.says("Terms", "then by all slips together, the greater first");
        Pegdraw x = bank(2);
        fish(x, 40, 41);
        Check.due("the greater slip", x.table(0), 1);
        fish(x, 42, 40);
        Check.due("800 and 926 to 861 and 800", x.table(0), 0);
        fish(x, 40, 44);
        Check.due("matches of 1 point each, one of them less", x.total(0), x.total(1));
        Check.due("2526 to 2725, none of them less", x.table(0), 1);
        Check.due("the other one", x.table(1), 0);
        Pegdraw y = bank(2);
        y.draw();
        Scene.fish(y, 40, 41);
        y.setError(0, -50);
        y.weigh(1, 0);
        y.weigh(0, 1);
        Check.due("by slips, not by true weights", y.table(0), 1);
    }

    private static void orderByNumbers() {
        Doc.says("Terms", "by all slips together, the greater first, then by numbers");
        Pegdraw x = bank(8);
        for (int i = 0; i < 8; i++) {
            Check.due("place before a match", x.table(i), i);
        }
        Scene.end(drawn(x));
        Scene.weighAll(x, 8);
        for (int i = 0; i < 8; i++) {
            Check.due("place behind a match of empty nets", x.table(i), i);
        }
        Pegdraw y = bank(2);
        fish(y, 40, 40);
        Check.due("all alike", y.table(0), 0);
        Check.due("all alike", y.table(1), 1);
    }

    private static Pegdraw drawn(Pegdraw x) {
        x.draw();
        return x;
    }

    private static void matchesThatAreOver() {
        Doc.says("Promise 33", "Returns how many.");
        for (char phase : Edge.PHASES.toCharArray()) {
            Check.due("matches in phase " + phase, Edge.inPhase(phase).matches(), 0);
        }
        Pegdraw x = Edge.over();
        Check.due("matches", x.matches(), 1);
        x.draw();
        x.begin(10);
        x.pass(10);
        x.weigh(0, 0);
        Check.due("matches, the second not being over", x.matches(), 1);
        x.weigh(1, 0);
        Check.due("matches", x.matches(), 2);
    }

    private static Pegdraw overFor(int anglers) {
        Pegdraw x = Edge.matchOf(anglers);
        if (anglers > 0) {
            Scene.end(x);
            Scene.weighAll(x, anglers);
        }
        return x;
    }

    private static void pointsOfNobody() {
        Doc.says("Promise 34", "Throws `IndexOutOfBoundsException` if there is no such angler");
        Edge.numbers("points", LeagueEdges::overFor, 2, 8, (x, angler) -> x.points(0, angler));
        Pegdraw x = Edge.over();
        Check.index("points of nobody in no match", x, () -> x.points(1, 2));
        Check.index("points of angler -1 in match -1", x, () -> x.points(-1, -1));
    }

    private static void pointsOfNoMatch() {
        Doc.says("Promise 34", "`match`: the match, from 0");
        Doc.says("Promise 34", "Throws `NoSuchElementException` if there is no such match that is over");
        noMatch("points", (x, match) -> x.points(match, 0));
    }

    private static void noMatch(String what, Edge.Call call) {
        for (char phase : Edge.PHASES.toCharArray()) {
            Pegdraw x = Edge.inPhase(phase);
            Check.noSuch(what + " of match 0 in phase " + phase, x, () -> call.on(x, 0));
        }
        Pegdraw x = Edge.over();
        x.draw();
        Scene.end(x);
        Scene.weighAll(x, 2);
        int[] wrong = {-1, 2, Integer.MIN_VALUE, Integer.MAX_VALUE};
        for (int match : wrong) {
            Check.noSuch(what + " of match " + match, x, () -> call.on(x, match));
        }
        Edge.taken(what, x, 0, call);
        Edge.taken(what, x, 1, call);
        x.draw();
        Scene.end(x);
        x.weigh(0, 0);
        Check.noSuch(what + " of a match that is not over", x, () -> call.on(x, 2));
        Edge.taken(what + " of the last one that is", x, 1, call);
    }

    private static void pointsOfOneWhoWasNotInIt() {
        Doc.says("Promise 34", "Returns the points, 0 if the angler was not in it.");
        Pegdraw x = bank(2);
        fish(x, 30, 31);
        for (int i = 2; i < 8; i++) {
            x.angler(9);
            Check.due("points of a late one", x.points(0, i), 0);
        }
        Check.due("points of one who was in it", x.points(0, 1), 1);
    }

    private static void winnerOfNoMatch() {
        Doc.says("Promise 35", "`match`: the match, from 0");
        Doc.says("Promise 35", "Throws `NoSuchElementException` if there is no such match that is over");
        noMatch("winner", Pegdraw::winner);
    }

    private static void totalOfNobody() {
        Doc.says("Promise 36", "Throws `IndexOutOfBoundsException` if there is no such angler");
        Edge.anglers("total", Pegdraw::total);
        Edge.inAllPhases("total", Pegdraw::total);
    }

    private static void noPlaceInTheTable() {
        Doc.says("Promise 37", "`index`: from 0");
        Doc.says("Promise 37", "Throws `NoSuchElementException` if there is none");
        int[] counts = {0, 1, 2, 8};
        for (int anglers : counts) {
            Pegdraw x = bank(anglers);
            int[] wrong = {-1, anglers, Integer.MIN_VALUE, Integer.MAX_VALUE};
            for (int index : wrong) {
                Check.noSuch("place " + index + " of " + anglers, x, () -> x.table(index));
            }
            for (int i = 0; i < anglers; i++) {
                Check.due("place " + i, x.table(i), i);
            }
        }
        Edge.inAllPhases("table", Pegdraw::table);
    }

    private static void wonByNobody() {
        Doc.says("Promise 39", "Throws `IndexOutOfBoundsException` if there is no such angler");
        Edge.anglers("won", Pegdraw::won);
        Edge.inAllPhases("won", Pegdraw::won);
        Pegdraw x = bank(3);
        Scene.draw(x, 10, new int[] {0, 1, 2}, 1);
        x.stake(1, 50);
        fishOut(x, 0, 40, 0);
        Check.due("pot and hat together", x.won(1), 30 + 45);
    }
}
