import java.util.NoSuchElementException;

/** Promises 33 to 39: results, the league, the pot and the hat. */
public final class LeagueTest {
    private static final Class<IndexOutOfBoundsException> INDEX = IndexOutOfBoundsException.class;
    private static final Class<NoSuchElementException> NO_SUCH = NoSuchElementException.class;

    public static void main(String[] args) {
        matchesAndWinner();
        points();
        pointsOfSections();
        pointsByTheClaim();
        total();
        leastOfTheFirst();
        slipOfOne();
        table();
        tableBySlips();
        potIsWon();
        hatIsWon();
        Check.end();
    }

    private static Pegdraw over(int[] pegs, int golden, int... lengths) {
        int[] skills = new int[pegs.length];
        for (int i = 0; i < skills.length; i++) {
            skills[i] = 9;
        }
        Pegdraw x = Scene.bank(5, 0, skills);
        next(x, pegs, golden, lengths);
        return x;
    }

    private static void next(Pegdraw x, int[] pegs, int golden, int... lengths) {
        Scene.draw(x, 5, pegs, golden);
        Scene.fish(x, lengths);
        Scene.weighAll(x, pegs.length);
    }

    private static void matchesAndWinner() {
        Pegdraw x = Scene.bank(5, 0, 9, 9, 9);
        Check.refused("winner before a match", x, NO_SUCH, () -> x.winner(0));
        int[] pegs = {3, 0, 1};
        Scene.draw(x, 5, pegs, 0);
        Scene.fish(x, 30, 40, 40);
        x.weigh(2, 0);
        x.weigh(1, 0);
        Check.due("not over", x.matches(), 0);
        Check.refused("winner before it is over", x, NO_SUCH, () -> x.winner(0));
        Check.refused("points before it is over", x, NO_SUCH, () -> x.points(0, 0));
        x.weigh(0, 0);
        Check.due("over", x.matches(), 1);
        Check.due("of like ones the lowest", x.winner(0), 1);
        next(x, pegs, 0, 0, 0, 31);
        next(x, pegs, 0, 0, 0, 0);
        Check.due("matches", x.matches(), 3);
        Check.due("winner", x.winner(1), 2);
        Check.due("winner of nothing", x.winner(2), 0);
        Check.due("the first one stays", x.winner(0), 1);
        Check.refused("winner(3)", x, NO_SUCH, () -> x.winner(3));
        Check.refused("winner(-1)", x, NO_SUCH, () -> x.winner(-1));
    }

    private static void points() {
        Pegdraw x = over(new int[] {0, 1}, 0, 30, 40);
        Check.due("alone in a section, above 0", x.points(0, 0), 1);
        Check.due("alone in a section, above 0", x.points(0, 1), 1);
        Check.refused("points(0, 2)", x, INDEX, () -> x.points(0, 2));
        Check.refused("points(1, 2)", x, INDEX, () -> x.points(1, 2));
        Check.refused("points(0, -1)", x, INDEX, () -> x.points(0, -1));
        Check.refused("points(1, 0)", x, NO_SUCH, () -> x.points(1, 0));
        Check.refused("points(-1, 0)", x, NO_SUCH, () -> x.points(-1, 0));
        x.angler(5);
        Check.due("0 for one who was not in it", x.points(0, 2), 0);
    }

    private static void pointsOfSections() {
        Pegdraw x = over(new int[] {4, 0, 2, 1}, 0, 30, 31, 32, 33);
        Check.due("lower section, less", x.points(0, 0), 1);
        Check.due("upper section, less", x.points(0, 1), 1);
        Check.due("lower section, more", x.points(0, 2), 2);
        Check.due("upper section, more", x.points(0, 3), 2);
        Pegdraw y = over(new int[] {4, 0, 3, 1, 2}, 0, 0, 0, 30, 40, 41);
        Check.due("below all, with nothing", y.points(0, 0), 0);
        Check.due("below all, with nothing", y.points(0, 1), 0);
        Check.due("one in its section is less", y.points(0, 2), 2);
        Check.due("one in its section is less", y.points(0, 3), 2);
        Check.due("two in its section are less", y.points(0, 4), 3);
        Pegdraw z = over(new int[] {0, 1, 2}, 0, 30, 30, 29);
        Check.due("like ones give no point", z.points(0, 0), 1);
        Check.due("like ones give no point", z.points(0, 1), 1);
        Check.due("alone", z.points(0, 2), 1);
    }

    private static void pointsByTheClaim() {
        Pegdraw x = Scene.bank(5, 0, 9, 9, 9);
        Scene.draw(x, 5, new int[] {0, 1, 2}, 0);
        Scene.fish(x, 30, 31, 0);
        x.setError(0, 50);
        x.weigh(0, 0);
        x.claim(0);
        x.setError(0, -50);
        x.weigh(1, 0);
        x.weigh(2, 0);
        Check.due("337 is more than 322", x.points(0, 0), 2);
        Check.due("322", x.points(0, 1), 1);
        Check.due("winner by slips", x.winner(0), 0);
    }

    private static void total() {
        int[] pegs = {0, 1, 2};
        Pegdraw x = over(pegs, 0, 40, 30, 0);
        Check.due("points", x.total(0), 2);
        Check.due("points", x.total(1), 1);
        next(x, pegs, 0, 41, 31, 0);
        Check.due("two matches", x.total(0), 4);
        Check.due("two matches", x.total(1), 2);
        Check.refused("total(3)", x, INDEX, () -> x.total(3));
        Check.refused("total(-1)", x, INDEX, () -> x.total(-1));
        Check.due("late", x.angler(9), 3);
        Check.due("late one has none", x.total(3), 0);
        int[] four = {0, 1, 2, 3};
        next(x, four, 0, 0, 30, 31, 32);
        Check.due("three matches, less the least, 0", x.total(0), 4);
        Check.due("three matches, 1 1 2, less the least", x.total(1), 3);
        Check.due("three matches, 0 0 1, less the least", x.total(2), 1);
        Check.due("one match of four in which the rest were", x.total(3), 2);
        next(x, four, 0, 45, 0, 0, 0);
        Check.due("four, 2 2 0 2", x.total(0), 6);
        Check.due("four, 1 1 2 0", x.total(1), 4);
        Check.due("two, 2 0", x.total(3), 2);
    }

    private static void leastOfTheFirst() {
        int[] pegs = {0, 1, 2};
        Pegdraw x = over(pegs, 0, 30, 40, 0);
        next(x, pegs, 0, 41, 31, 0);
        Check.due("1 and 2", x.total(0), 3);
        next(x, pegs, 0, 42, 32, 0);
        Check.due("1, 2 and 2, less the first", x.total(0), 4);
        next(x, pegs, 0, 43, 33, 0);
        Check.due("1, 2, 2 and 2, less the first", x.total(0), 6);
        Check.due("2, 1, 1 and 1, less one", x.total(1), 4);
    }

    private static void slipOfOne() {
        Pegdraw x = Scene.bank(5, 0, 9, 9);
        x.setLeast(0, 5);
        Scene.draw(x, 5, new int[] {0, 1}, 0);
        Scene.fish(x, 5, 0);
        Scene.weighAll(x, 2);
        Check.due("slip", x.slip(0), 1);
        Check.due("above 0", x.points(0, 0), 1);
        Check.due("0 is not", x.points(0, 1), 0);
        Check.due("the pot for 1", x.won(0), 20);
    }

    private static void table() {
        int[] pegs = {0, 1, 2};
        Pegdraw x = Scene.bank(5, 0, 9, 9, 9);
        for (int i = 0; i < 3; i++) {
            Check.due("by numbers at first", x.table(i), i);
        }
        next(x, pegs, 0, 0, 40, 41);
        Check.due("most points", x.table(0), 1);
        Check.due("next", x.table(1), 2);
        Check.due("last", x.table(2), 0);
        Check.refused("table(3)", x, NO_SUCH, () -> x.table(3));
        Check.refused("table(-1)", x, NO_SUCH, () -> x.table(-1));
        x.angler(9);
        Check.due("the new one is the last", x.table(3), 3);
    }

    private static void tableBySlips() {
        int[] pegs = {0, 2};
        Pegdraw x = over(pegs, 0, 30, 40);
        Check.due("like points, greater slip", x.table(0), 1);
        next(x, pegs, 0, 41, 31);
        Check.due("like points, 1198 and 1172", x.table(0), 0);
        Check.due("like points, 1198 and 1172", x.table(1), 1);
        Pegdraw y = over(pegs, 0, 30, 30);
        Check.due("all alike, by numbers", y.table(0), 0);
        Check.due("all alike, by numbers", y.table(1), 1);
    }

    private static void potIsWon() {
        int[] pegs = {0, 2, 4};
        Pegdraw x = over(pegs, 1, 40, 30, 0);
        Check.due("the winner is not on the golden peg", x.pot(), 30);
        Check.due("won", x.won(0), 0);
        next(x, pegs, 0, 0, 0, 0);
        Check.due("a slip of 0 wins no pot", x.pot(), 60);
        Check.due("won", x.won(0), 0);
        Scene.draw(x, 5, pegs, 2);
        Check.due("pot", x.pot(), 90);
        Scene.fish(x, 0, 0, 30);
        Check.due("pot before the scales", x.pot(), 90);
        Scene.weighAll(x, 3);
        Check.due("the winner on the golden peg gets it", x.won(2), 90);
        Check.due("pot then", x.pot(), 0);
        Check.refused("won(3)", x, INDEX, () -> x.won(3));
        Check.refused("won(-1)", x, INDEX, () -> x.won(-1));
    }

    private static void hatIsWon() {
        int[] pegs = {0, 2, 4};
        Pegdraw x = Scene.bank(5, 0, 9, 9, 9);
        Scene.draw(x, 5, pegs, 0);
        x.stake(1, 50);
        Check.due("in the hat", x.stake(2, 9), 59);
        Scene.fish(x, 40, 0, 30);
        Scene.weighAll(x, 3);
        Check.due("the winner staked nothing, and gets the pot", x.won(0), 30);
        Check.due("nine tenths of 59, cut", x.won(2), 53);
        Check.due("the rest", x.fund(), 6);
        Scene.draw(x, 5, pegs, 0);
        x.stake(2, 3);
        x.stake(1, 1);
        Scene.fish(x, 0, 0, 0);
        Scene.weighAll(x, 3);
        Check.due("of like ones the lowest, even with 0", x.won(1), 3);
        Check.due("the rest", x.fund(), 7);
        next(x, pegs, 1, 0, 0, 0);
        Check.due("no stakes, nothing won", x.won(1), 3);
        Check.due("no stakes, nothing for the fund", x.fund(), 7);
        Scene.draw(x, 5, pegs, 2);
        x.stake(2, 10);
        Scene.fish(x, 0, 0, 33);
        Scene.weighAll(x, 3);
        Check.due("pot and hat together", x.won(2), 53 + 90 + 9);
    }
}
