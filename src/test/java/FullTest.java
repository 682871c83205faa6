/** A bank with all that it can hold: 10 swims, 8 anglers and 60 fish; the machine must never throw in it. */
public final class FullTest {
    public static void main(String[] args) {
        Pegdraw x = Scene.bank(10, 1, 9, 9, 9, 9, 9, 9, 9, 9);
        for (int i = 0; i < 60; i++) {
            x.stock(i % 10, i % 4, 20 + i);
        }
        for (int i = 0; i < 10; i++) {
            Check.due("poach", x.poach(i), i + 1);
        }
        aMatch(x);
        sums(x);
        for (int i = 0; i < 8; i++) {
            Check.due("total", x.total(i), x.points(0, i));
        }
        boolean[] placed = new boolean[8];
        for (int i = 0; i < 8; i++) {
            placed[x.table(i)] = true;
        }
        for (boolean one : placed) {
            Check.due("each has a place", one, true);
        }
        Check.refused("table(8)", x, java.util.NoSuchElementException.class, () -> x.table(8));
        manyMatches();
        manyMinutes();
        Check.end();
    }

    private static void aMatch(Pegdraw x) {
        x.seed(Seeds.withRests(10, 9, 9, 0, 8, 4));
        x.draw();
        for (int i = 0; i < 8; i++) {
            Check.due("stake", x.stake(i, 5), 5 * (i + 1));
        }
        x.begin(300);
        for (int i = 0; i < 8; i++) {
            Check.due("cast", x.cast(i, 0), true);
            x.feed(i, 20);
        }
        x.setFlow(9);
        x.setWarmth(30);
        for (int i = 0; i < 5; i++) {
            x.pass(60);
            Check.due("sound", x.isSound(), true);
        }
        for (int i = 0; i < 8; i++) {
            x.weigh(i, 0);
        }
        Check.due("over", x.matches(), 1);
        Check.due("pot and what was won by it and the hat", x.pot() + sumWon(x) + x.fund(), 80 + 40);
    }

    private static int sumWon(Pegdraw x) {
        int sum = 0;
        for (int i = 0; i < 8; i++) {
            sum += x.won(i);
        }
        return sum;
    }

    private static void sums(Pegdraw x) {
        int water = 0;
        for (int i = 0; i < 10; i++) {
            water += x.fishIn(i);
        }
        Check.due("share", x.waterShare(), (float) water / 60f);
        Check.due("mass", x.mass('w') + x.mass('t') + x.mass('d') + x.mass('e') + x.mass('n'), x.mass('s'));
        Check.isTrue("fish were taken", x.mass('t') > 0);
        for (int i = 0; i < 10; i++) {
            x.round(i);
        }
        Check.due("lines taken away", x.poach(9), 1);
        Check.due("nobody has a peg, nobody owes", x.amnesty(), 0);
        int length = 0;
        for (int i = 0; i < 60; i++) {
            length += x.state(i) == 'w' ? x.of(i, 'l') : 0;
        }
        Check.due("mean", x.meanLength(), (double) length / (double) water);
    }

    /** More matches than 512 calls can hold. */
    private static void manyMatches() {
        Pegdraw x = Scene.bank(2, 0, 1, 1);
        for (int i = 0; i < 999; i++) {
            x.draw();
            x.begin(10);
            x.pass(10);
            x.weigh(1, 1);
            x.weigh(0, 1);
        }
        Check.due("matches", x.matches(), 999);
        Check.due("pot", x.pot(), 19980);
        Check.due("total", x.total(0) + x.total(1), 0);
        Check.due("winner", x.winner(998), 0);
    }

    private static void manyMinutes() {
        Pegdraw x = Scene.bank(10, 9, 9, 9);
        for (int i = 0; i < 60; i++) {
            x.stock(9, 0, 90);
        }
        for (int i = 0; i < 83; i++) {
            x.pass(120);
        }
        x.pass(39);
        Check.due("minute", x.minute(), 9999);
        Check.due("hunger", x.of(59, 'h'), 99);
        Check.due("sound", x.isSound(), true);
    }
}
