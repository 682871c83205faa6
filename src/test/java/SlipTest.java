import java.util.NoSuchElementException;

/** Promises 29 to 32: scales, slips and claims. */
public final class SlipTest {
    private static final Class<IllegalArgumentException> ARGUMENT = IllegalArgumentException.class;
    private static final Class<IndexOutOfBoundsException> INDEX = IndexOutOfBoundsException.class;
    private static final Class<UnsupportedOperationException> UNSUPPORTED = UnsupportedOperationException.class;
    private static final Class<NoSuchElementException> NO_SUCH = NoSuchElementException.class;

    public static void main(String[] args) {
        setError();
        weigh();
        slipIsNotBelowZero();
        weighedFishGoBack();
        claim();
        slip();
        Check.end();
    }

    private static void setError() {
        Pegdraw x = new Pegdraw();
        Check.due("error at first", x.setError(0, -50), 0);
        Check.due("error of the other", x.setError(1, 50), 0);
        Check.due("error", x.setError(0, 1), -50);
        Check.due("error of the other", x.setError(1, 2), 50);
        Check.refused("scale 2", x, ARGUMENT, () -> x.setError(2, 0));
        Check.refused("scale -1", x, ARGUMENT, () -> x.setError(-1, 0));
        Check.refused("51", x, ARGUMENT, () -> x.setError(0, 51));
        Check.refused("-51", x, ARGUMENT, () -> x.setError(0, -51));
        Check.due("error", x.setError(0, 3), 1);
    }

    private static void weigh() {
        Pegdraw x = Scene.bank(3, 0, 9, 9);
        Check.refused("weigh before the draw", x, UNSUPPORTED, () -> x.weigh(0, 0));
        Scene.draw(x, 3, new int[] {0, 2}, 0);
        Check.refused("weigh before the match", x, UNSUPPORTED, () -> x.weigh(0, 0));
        Scene.fish(x, 30, 40);
        x.setError(0, 20);
        x.setError(1, -30);
        Check.refused("weigh(2, 0)", x, INDEX, () -> x.weigh(2, 2));
        Check.refused("weigh(-1, 0)", x, INDEX, () -> x.weigh(-1, 0));
        Check.refused("weigh(0, 2)", x, ARGUMENT, () -> x.weigh(0, 2));
        Check.refused("weigh(0, -1)", x, ARGUMENT, () -> x.weigh(0, -1));
        Check.due("slip", x.weigh(0, 0), 337 + 20);
        Check.refused("weigh again", x, UNSUPPORTED, () -> x.weigh(0, 0));
        Check.due("slip by the other scale", x.weigh(1, 1), 800 - 30);
        Check.refused("weigh behind the match", x, UNSUPPORTED, () -> x.weigh(0, 0));
        Pegdraw y = Scene.match(0, 9);
        Check.refused("weigh in the match", y, UNSUPPORTED, () -> y.weigh(0, 0));
        Scene.end(y);
        y.setError(0, 50);
        Check.due("an empty net is 0", y.weigh(0, 0), 0);
    }

    private static void slipIsNotBelowZero() {
        Pegdraw x = Scene.bank(3, 0, 9, 9);
        x.setLeast(0, 5);
        Scene.draw(x, 3, new int[] {0, 2}, 0);
        Scene.fish(x, 15, 16);
        x.setError(0, -50);
        Check.due("42 less 50", x.weigh(0, 0), 0);
        Check.due("the true weight", x.claim(0), 42);
        Check.due("51 less 50", x.weigh(1, 0), 1);
    }

    private static void weighedFishGoBack() {
        Pegdraw x = Scene.bank(3, 0, 9, 9);
        Scene.draw(x, 3, new int[] {0, 2}, 0);
        Scene.fish(x, 30, 40);
        Check.due("hunger in the net", x.of(0, 'h'), 21 - 1);
        x.weigh(0, 0);
        Check.due("in the water", x.state(0), 'w');
        Check.due("of the peg", x.of(0, 's'), 0);
        Check.due("10 more", x.of(0, 'f'), 10);
        Check.due("the other one's is in the net", x.state(1), 'n');
        Check.due("no more in the net", x.account(0, 'n'), 0);
        x.weigh(1, 0);
        Check.due("in the water", x.state(1), 'w');
        Check.due("all in the water", x.mass('w'), x.mass('s'));
    }

    private static void claim() {
        Pegdraw x = Scene.bank(3, 0, 9, 9, 9);
        Check.refused("claim before the draw", x, UNSUPPORTED, () -> x.claim(0));
        Scene.draw(x, 3, new int[] {0, 2, 1}, 0);
        Scene.fish(x, 30, 40, 0);
        x.setError(1, 7);
        Check.refused("claim before the scale", x, UNSUPPORTED, () -> x.claim(0));
        Check.refused("claim(3)", x, INDEX, () -> x.claim(3));
        Check.refused("claim(-1)", x, INDEX, () -> x.claim(-1));
        x.weigh(0, 1);
        x.setError(1, 9);
        Check.due("slip as weighed", x.slip(0), 344);
        Check.due("claim", x.claim(0), 337);
        Check.due("slip is the true one", x.slip(0), 337);
        Check.refused("claim again", x, UNSUPPORTED, () -> x.claim(0));
        x.weigh(1, 1);
        Check.due("claim of the second", x.claim(1), 800);
        x.weigh(2, 1);
        Check.refused("claim behind the match", x, UNSUPPORTED, () -> x.claim(2));
        Scene.draw(x, 3, new int[] {0, 2, 1}, 0);
        Scene.fish(x, 31, 0, 0);
        Check.refused("claim against the slip of the last match", x, UNSUPPORTED, () -> x.claim(0));
        x.weigh(0, 1);
        Check.due("once for each match", x.claim(0), 372);
    }

    private static void slip() {
        Pegdraw x = Scene.bank(3, 0, 9, 9);
        Check.refused("no slip", x, NO_SUCH, () -> x.slip(0));
        Check.refused("slip(2)", x, INDEX, () -> x.slip(2));
        Check.refused("slip(-1)", x, INDEX, () -> x.slip(-1));
        Scene.draw(x, 3, new int[] {0, 2}, 0);
        Scene.fish(x, 30, 40);
        x.weigh(1, 0);
        Check.refused("still no slip", x, NO_SUCH, () -> x.slip(0));
        Check.due("slip", x.slip(1), 800);
        x.weigh(0, 0);
        Check.due("slip behind the match", x.slip(0), 337);
        Scene.draw(x, 3, new int[] {0, 2}, 0);
        Check.due("the last slip, behind the next draw", x.slip(0), 337);
        Scene.end(x);
        Check.due("the last slip, before the next scale", x.slip(0), 337);
        x.weigh(0, 0);
        Check.due("the next one", x.slip(0), 0);
    }
}
