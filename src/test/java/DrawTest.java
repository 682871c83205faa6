import java.util.NoSuchElementException;

/** Promises 13 to 18: anglers, the draw, stakes and the match's phases. */
public final class DrawTest {
    private static final Class<IllegalArgumentException> ARGUMENT = IllegalArgumentException.class;
    private static final Class<IndexOutOfBoundsException> INDEX = IndexOutOfBoundsException.class;
    private static final Class<UnsupportedOperationException> UNSUPPORTED = UnsupportedOperationException.class;
    private static final Class<IllegalStateException> STATE = IllegalStateException.class;
    private static final Class<NoSuchElementException> NO_SUCH = NoSuchElementException.class;

    public static void main(String[] args) {
        angler();
        draw();
        drawAgainWithPegsLeft();
        drawByDraws();
        pegOf();
        stake();
        begin();
        phase();
        Check.end();
    }

    private static void angler() {
        Pegdraw x = Scene.bank(10, 0);
        Check.refused("angler(0)", x, ARGUMENT, () -> x.angler(0));
        Check.refused("angler(10)", x, ARGUMENT, () -> x.angler(10));
        for (int i = 0; i < 8; i++) {
            Check.due("angler", x.angler(1 + i), i);
            Check.due("without a ticket", x.ticket(i, false), false);
        }
        Check.refused("a ninth angler", x, STATE, () -> x.angler(9));
        Check.refused("a ninth angler out of range", x, ARGUMENT, () -> x.angler(10));
        x.draw();
        Check.refused("a ninth angler behind the draw", x, UNSUPPORTED, () -> x.angler(9));
        Check.refused("a wrong angler behind the draw", x, ARGUMENT, () -> x.angler(0));
    }

    private static void draw() {
        Pegdraw x = Scene.bank(2, 0, 1);
        Check.refused("draw with one angler", x, UNSUPPORTED, x::draw);
        x.angler(1);
        x.open(0, false);
        Check.refused("draw with one open peg", x, UNSUPPORTED, x::draw);
        x.open(0, true);
        int golden = x.draw();
        Check.isTrue("golden peg is a peg", golden == x.pegOf(0) || golden == x.pegOf(1));
        Check.due("pot", x.pot(), 20);
        Check.refused("draw again", x, UNSUPPORTED, x::draw);
        x.begin(10);
        Check.refused("draw in a match", x, UNSUPPORTED, x::draw);
        x.pass(10);
        Check.refused("draw before the scales", x, UNSUPPORTED, x::draw);
        Scene.weighAll(x, 2);
        x.draw();
        Check.due("pot carries over", x.pot(), 40);
    }

    private static void drawAgainWithPegsLeft() {
        Pegdraw x = Scene.bank(10, 0, 1, 1);
        x.draw();
        Check.refused("draw again with pegs left", x, UNSUPPORTED, x::draw);
        Scene.end(x);
        Check.refused("draw before the scales with pegs left", x, UNSUPPORTED, x::draw);
        Check.due("pot", x.pot(), 20);
    }

    private static void drawByDraws() {
        Scene.draw(Scene.bank(10, 0, 1, 1, 1), 10, new int[] {9, 0, 8}, 2);
        Scene.draw(Scene.bank(4, 0, 1, 1, 1), 4, new int[] {1, 2, 0}, 0);
        Scene.draw(Scene.bank(3, 0, 1, 1, 1), 3, new int[] {2, 1, 0}, 1);
        Pegdraw x = Scene.bank(5, 0, 1, 1);
        x.open(0, false);
        x.open(2, false);
        x.seed(Seeds.withRests(3, 1, 2, 1, 2, 1));
        Check.due("golden among open ones", x.draw(), 4);
        Check.due("peg among open ones", x.pegOf(0), 3);
        Check.due("peg among those left", x.pegOf(1), 4);
    }

    private static void pegOf() {
        Pegdraw x = Scene.bank(3, 0, 1, 1);
        Check.refused("pegOf before the draw", x, NO_SUCH, () -> x.pegOf(0));
        Check.refused("pegOf(2)", x, INDEX, () -> x.pegOf(2));
        Check.refused("pegOf(-1)", x, INDEX, () -> x.pegOf(-1));
        Scene.draw(x, 3, new int[] {2, 0}, 1);
        Scene.end(x);
        Check.due("pegOf before the scales", x.pegOf(0), 2);
        Scene.weighAll(x, 2);
        Check.refused("pegOf behind the match", x, NO_SUCH, () -> x.pegOf(0));
    }

    private static void stake() {
        Pegdraw x = Scene.bank(3, 0, 1, 1);
        Check.refused("stake before the draw", x, UNSUPPORTED, () -> x.stake(0, 1));
        x.draw();
        Check.refused("stake of 0", x, ARGUMENT, () -> x.stake(0, 0));
        Check.refused("stake of 51", x, ARGUMENT, () -> x.stake(0, 51));
        Check.refused("stake of no angler", x, INDEX, () -> x.stake(2, 0));
        Check.due("stake", x.stake(1, 50), 50);
        Check.refused("stake again", x, UNSUPPORTED, () -> x.stake(1, 1));
        Check.refused("wrong stake again", x, ARGUMENT, () -> x.stake(1, 51));
        Check.due("stake of another", x.stake(0, 1), 51);
        Scene.end(x);
        Scene.weighAll(x, 2);
        x.draw();
        Check.due("the hat is empty for the next match", x.stake(1, 7), 7);
        x.begin(10);
        Check.refused("stake in a match", x, UNSUPPORTED, () -> x.stake(0, 1));
        x.pass(10);
        Check.refused("stake before the scales", x, UNSUPPORTED, () -> x.stake(0, 1));
    }

    private static void begin() {
        Pegdraw x = Scene.bank(3, 0, 1, 1);
        Check.refused("begin before the draw", x, UNSUPPORTED, () -> x.begin(10));
        Check.refused("begin for 9", x, ARGUMENT, () -> x.begin(9));
        Check.refused("begin for 301", x, ARGUMENT, () -> x.begin(301));
        x.pass(7);
        x.draw();
        Check.due("begin", x.begin(300), 307);
        Check.refused("begin again", x, UNSUPPORTED, () -> x.begin(10));
        Scene.end(x);
        Check.due("ended in minute", x.minute(), 307);
        Check.refused("begin before the scales", x, UNSUPPORTED, () -> x.begin(10));
        Scene.weighAll(x, 2);
        for (int i = 0; i < 80; i++) {
            x.pass(120);
        }
        x.pass(92);
        x.draw();
        Check.due("begin late", x.begin(10), 10009);
        Check.refused("the match has no end", x, STATE, () -> x.pass(1));
        Check.due("phase", x.phase(), 'm');
    }

    private static void phase() {
        Pegdraw x = Scene.bank(3, 0, 1, 1);
        Check.due("no pegs", x.phase(), 'n');
        x.draw();
        Check.due("drawn", x.phase(), 'd');
        x.pass(50);
        Check.due("still drawn", x.phase(), 'd');
        x.begin(10);
        Check.due("match", x.phase(), 'm');
        x.pass(9);
        Check.due("still on", x.phase(), 'm');
        x.pass(1);
        Check.due("ended", x.phase(), 'e');
        x.weigh(1, 0);
        Check.due("not all weighed", x.phase(), 'e');
        x.weigh(0, 0);
        Check.due("over", x.phase(), 'n');
    }
}
