import java.util.NoSuchElementException;

/** Promises 19 to 28: lines, feed, minutes and nets. */
public final class MatchTest {
    private static final Class<IllegalArgumentException> ARGUMENT = IllegalArgumentException.class;
    private static final Class<IndexOutOfBoundsException> INDEX = IndexOutOfBoundsException.class;
    private static final Class<UnsupportedOperationException> UNSUPPORTED = UnsupportedOperationException.class;
    private static final Class<IllegalStateException> STATE = IllegalStateException.class;
    private static final Class<NoSuchElementException> NO_SUCH = NoSuchElementException.class;

    public static void main(String[] args) {
        cast();
        castTooFar();
        crossing();
        reelAndLineOf();
        feed();
        pass();
        drift();
        bite();
        hook();
        snag();
        hungriest();
        leastLength();
        netRoom();
        netCount();
        landedFromBeside();
        moveByFeed();
        moveByFright();
        fleeFromSixty();
        calmAndStarve();
        hour();
        heat();
        endOfLines();
        account();
        netWeight();
        Check.end();
    }

    private static void cast() {
        Pegdraw x = Scene.bank(3, 0, 1, 1);
        Check.refused("cast before the draw", x, UNSUPPORTED, () -> x.cast(0, -1) ? 1 : 0);
        Check.refused("cast(0, 2) before the draw", x, ARGUMENT, () -> x.cast(0, 2) ? 1 : 0);
        Scene.draw(x, 3, new int[] {0, 2}, 0);
        Check.refused("cast before the match", x, UNSUPPORTED, () -> x.cast(0, 1) ? 1 : 0);
        Check.refused("cast out of the bank before the match", x, ARGUMENT, () -> x.cast(0, -1) ? 1 : 0);
        x.begin(10);
        Check.refused("cast(2, 5)", x, INDEX, () -> x.cast(2, 5) ? 1 : 0);
        Check.refused("cast(-1, 0)", x, INDEX, () -> x.cast(-1, 0) ? 1 : 0);
        Check.refused("cast(0, -2)", x, ARGUMENT, () -> x.cast(0, -2) ? 1 : 0);
        Check.refused("cast up from the first", x, ARGUMENT, () -> x.cast(0, -1) ? 1 : 0);
        Check.refused("cast down from the last", x, ARGUMENT, () -> x.cast(1, 1) ? 1 : 0);
        Check.due("cast", x.cast(0, 0), true);
        Check.due("line", x.lineOf(0), 0);
        Check.due("cast down", x.cast(0, 1), true);
        Check.due("line", x.lineOf(0), 1);
        Check.due("cast to the same swim again", x.cast(0, 1), true);
        Check.due("no line crossed", x.crossed(), 0);
        Check.refused("a wrong cast leaves the line", x, ARGUMENT, () -> x.cast(0, -1) ? 1 : 0);
        Check.due("line", x.lineOf(0), 1);
        Scene.end(x);
        Check.refused("cast behind the match", x, UNSUPPORTED, () -> x.cast(0, 0) ? 1 : 0);
    }

    private static void castTooFar() {
        Pegdraw x = Scene.bank(5, 0, 1, 1);
        Scene.draw(x, 5, new int[] {2, 0}, 0);
        x.begin(10);
        Check.refused("cast two up", x, ARGUMENT, () -> x.cast(0, -2) ? 1 : 0);
        Check.refused("cast two down", x, ARGUMENT, () -> x.cast(0, 2) ? 1 : 0);
        Check.refused("cast round all numbers", x, ARGUMENT, () -> x.cast(0, Integer.MAX_VALUE) ? 1 : 0);
    }

    private static void crossing() {
        Pegdraw x = Scene.bank(3, 0, 1, 1);
        Scene.draw(x, 3, new int[] {0, 2}, 0);
        x.begin(100);
        x.cast(0, 1);
        Check.due("cast onto a guest's line", x.cast(1, -1), false);
        Check.due("crossed", x.crossed(), 1);
        Check.refused("the guest's line is out", x, NO_SUCH, () -> x.lineOf(0));
        Check.refused("the later line is out", x, NO_SUCH, () -> x.lineOf(1));
        Pegdraw y = Scene.match(0, 1);
        y.cast(0, 0);
        y.cast(1, 1);
        Check.due("cast onto the line of who sits there", y.cast(1, -1), false);
        Check.due("crossed", y.crossed(), 1);
        Check.due("the line of who sits there stays", y.lineOf(0), 0);
        Check.refused("the own line is out", y, NO_SUCH, () -> y.lineOf(1));
        y.reel(0);
        y.cast(1, -1);
        Check.due("cast to the own swim, where a guest's line lies", y.cast(0, 0), false);
        Check.due("crossed", y.crossed(), 2);
        Check.refused("both are out", y, NO_SUCH, () -> y.lineOf(1));
        Check.refused("both are out", y, NO_SUCH, () -> y.lineOf(0));
    }

    private static void reelAndLineOf() {
        Pegdraw x = Scene.match(0, 1);
        Check.refused("reel without a line", x, NO_SUCH, () -> x.reel(0));
        Check.refused("reel(2)", x, INDEX, () -> x.reel(2));
        Check.refused("lineOf(2)", x, INDEX, () -> x.lineOf(2));
        Check.refused("lineOf(-1)", x, INDEX, () -> x.lineOf(-1));
        Check.refused("lineOf without a line", x, NO_SUCH, () -> x.lineOf(0));
        x.cast(1, 1);
        Check.due("lineOf", x.lineOf(1), 2);
        Check.due("reel", x.reel(1), 2);
        Check.refused("reel again", x, NO_SUCH, () -> x.reel(1));
    }

    private static void feed() {
        Pegdraw x = Scene.bank(3, 0, 1, 1);
        Check.refused("feed before the draw", x, UNSUPPORTED, () -> x.feed(0, 1));
        Scene.draw(x, 3, new int[] {2, 0}, 0);
        Check.refused("feed before the match", x, UNSUPPORTED, () -> x.feed(0, 1));
        x.begin(20);
        Check.refused("feed(0, 0)", x, ARGUMENT, () -> x.feed(0, 0));
        Check.refused("feed(0, 21)", x, ARGUMENT, () -> x.feed(0, 21));
        Check.refused("feed(2, 0)", x, INDEX, () -> x.feed(2, 0));
        for (int i = 1; i < 5; i++) {
            Check.due("feed", x.feed(0, 20), 20 * i);
        }
        Check.due("feed 99 at most", x.feed(0, 20), 99);
        Check.due("feed in the own swim", x.feedIn(2), 99);
        Check.due("none elsewhere", x.feedIn(1), 0);
        Check.due("feed of the other", x.feed(1, 1), 1);
        Check.refused("feedIn(3)", x, INDEX, () -> x.feedIn(3));
        Check.refused("feedIn(-1)", x, INDEX, () -> x.feedIn(-1));
        Scene.end(x);
        Check.refused("feed behind the match", x, UNSUPPORTED, () -> x.feed(0, 1));
        Check.due("feed stays without fish", x.feedIn(2), 99);
    }

    private static void pass() {
        Pegdraw x = new Pegdraw();
        Check.refused("pass(0)", x, ARGUMENT, () -> x.pass(0));
        Check.refused("pass(121)", x, ARGUMENT, () -> x.pass(121));
        Check.due("pass", x.pass(1), 1);
        for (int i = 0; i < 83; i++) {
            x.pass(120);
        }
        Check.due("minute", x.minute(), 9961);
        Check.refused("pass too far", x, STATE, () -> x.pass(39));
        Check.refused("pass out of range, and too far", x, ARGUMENT, () -> x.pass(121));
        Check.due("pass to the last minute", x.pass(38), 9999);
        Check.refused("pass beyond", x, STATE, () -> x.pass(1));
        Check.due("minute", x.minute(), 9999);
    }

    private static void drift() {
        Pegdraw x = Scene.match(0, 1);
        x.feed(0, 15);
        x.feed(1, 7);
        x.setFlow(4);
        x.pass(1);
        Check.due("no drift with a flow of 4", x.feedIn(0), 15);
        x.setFlow(5);
        x.pass(1);
        Check.due("half of 15, cut, goes", x.feedIn(0), 8);
        Check.due("half of 7 goes, 7 come", x.feedIn(1), 11);
        Check.due("3 come", x.feedIn(2), 3);
        x.pass(1);
        Check.due("0", x.feedIn(0), 4);
        Check.due("1", x.feedIn(1), 10);
        Check.due("out of the last one it is gone", x.feedIn(2), 7);
    }

    /** One fish at swim 0 and the line of angler 0 with it; its urge is 44 with a flow of 3. */
    private static Pegdraw oneFish(int snags, int skill) {
        Pegdraw x = Scene.match(snags, skill);
        x.stock(0, 0, 40);
        x.cast(0, 0);
        return x;
    }

    private static boolean bites(Pegdraw x, int rest) {
        int before = x.account(0, 'l') + x.account(0, 'm') + x.account(0, 'h');
        int seed = Seeds.withRests(100, rest);
        x.seed(seed);
        x.pass(1);
        boolean bitten = x.account(0, 'l') + x.account(0, 'm') + x.account(0, 'h') > before;
        Check.isTrue("draws with a rest of " + rest, bitten != (Scene.z(x) == Seeds.next(seed)));
        return bitten;
    }

    private static void bite() {
        Check.due("below the urge", bites(oneFish(0, 5), 43), true);
        Check.due("at the urge", bites(oneFish(0, 5), 44), false);
        for (int balls = 1; balls < 14; balls++) {
            int urge = 44 + Math.min(30, 3 * balls);
            Pegdraw x = oneFish(0, 5);
            x.feed(0, balls);
            Check.due("with feed, at the urge", bites(x, urge), false);
            Pegdraw y = oneFish(0, 5);
            y.feed(0, balls);
            Check.due("with feed, below the urge", bites(y, urge - 1), true);
        }
        for (int flow = 0; flow < 10; flow++) {
            Pegdraw x = oneFish(0, 5);
            x.setFlow(flow);
            Check.due("with a flow, at the urge", bites(x, 50 - 2 * flow), false);
            Check.due("with a flow, below the urge", bites(x, 49 - 2 * flow), true);
        }
        Pegdraw x = Scene.match(0, 5);
        x.stock(1, 0, 40);
        x.cast(0, 0);
        int before = Scene.z(x);
        x.pass(1);
        Check.due("no draw without a fish", Scene.z(x), before);
        x.reel(0);
        x.pass(1);
        Check.due("no draw without a line", Scene.z(x), before);
    }

    private static void hook() {
        Pegdraw x = oneFish(9, 4);
        x.seed(Seeds.withRests(100, 3, 10, 4));
        x.pass(1);
        Check.due("missed", x.account(0, 'm'), 1);
        Check.due("not lost", x.account(0, 'h'), 0);
        Check.due("5 more, 1 less", x.of(0, 'f'), 4);
        int seed = Seeds.withRests(100, 3, 10, 4);
        Check.due("fright lessens the urge, at it", bites(x, 51 - 4 - 6), false);
        Check.due("fright lessens the urge, below it", bites(x, 51 - 3 - 6 - 1), true);
        Pegdraw y = oneFish(9, 4);
        y.seed(seed);
        y.pass(1);
        Check.due("two draws when missed", Scene.z(y), Seeds.next(Seeds.next(seed)));
        Pegdraw hooked = oneFish(0, 4);
        hooked.seed(Seeds.withRests(100, 3, 10, 3));
        hooked.pass(1);
        Check.due("hooked below the skill", hooked.account(0, 'l'), 1);
    }

    private static void snag() {
        Pegdraw x = oneFish(6, 9);
        int seed = Seeds.withRests(100, 0, 10, 8, 20, 5);
        x.seed(seed);
        x.pass(1);
        Check.due("lost", x.account(0, 'h'), 1);
        Check.due("not missed", x.account(0, 'm'), 0);
        Check.due("20 more, 1 less", x.of(0, 'f'), 19);
        Check.due("three draws", Scene.z(x), Seeds.next(Seeds.next(Seeds.next(seed))));
        Check.due("hunger as the minute of 0 has it", x.of(0, 'h'), 51);
        Pegdraw y = oneFish(6, 9);
        y.seed(Seeds.withRests(100, 0, 10, 8, 20, 6));
        y.pass(1);
        Check.due("landed at the snags' number", y.account(0, 'l'), 1);
        Check.due("hunger 30 less, in a net no more", y.of(0, 'h'), 20);
        Check.due("landings", y.of(0, 'c'), 1);
        Check.due("snags of the line's swim", y.account(0, 'n'), 1);
        Pegdraw far = new Pegdraw();
        far.swim(5, 9);
        far.swim(5, 0);
        far.angler(9);
        far.angler(9);
        Scene.draw(far, 2, new int[] {0, 1}, 0);
        far.begin(10);
        far.stock(1, 0, 40);
        far.cast(0, 1);
        far.seed(Seeds.withRests(100, 0, 10, 0, 20, 0));
        far.pass(1);
        Check.due("no snags beside", far.account(0, 'l'), 1);
    }

    private static void hungriest() {
        Pegdraw x = Scene.match(0, 9);
        x.setLeast(0, 90);
        x.stock(0, 0, 40);
        x.stock(0, 0, 40);
        x.cast(0, 0);
        Scene.land(x, 0);
        Check.due("of like ones the lowest", x.of(0, 'c'), 1);
        Scene.land(x, 0);
        Check.due("then the hungriest", x.of(1, 'c'), 1);
        Check.due("not the first", x.of(0, 'c'), 1);
        x.stock(0, 1, 40);
        Scene.land(x, 0);
        Check.due("the new one", x.of(2, 'c'), 1);
        Pegdraw y = Scene.match(0, 9);
        y.stock(0, 0, 40);
        y.stock(1, 0, 40);
        y.cast(0, 0);
        y.cast(1, 0);
        y.seed(Seeds.withRests(100, 0, 10, 0, 20, 0, 100, 99));
        y.pass(1);
        Check.due("angler 0 draws first", y.account(0, 'l'), 1);
        Check.due("angler 1 behind", y.account(1, 'l'), 0);
    }

    private static void leastLength() {
        Pegdraw x = Scene.match(0, 9);
        x.setLeast(2, 40);
        x.stock(0, 2, 39);
        x.cast(0, 0);
        Scene.land(x, 0);
        Check.due("put back", x.account(0, 'u'), 1);
        Check.due("in the water", x.state(0), 'w');
        Check.due("there", x.of(0, 's'), 0);
        Check.due("30 more, 1 less", x.of(0, 'f'), 29);
        Check.due("hunger 30 less, 1 more", x.of(0, 'h'), 21);
        Check.due("not in the net", x.account(0, 'n'), 0);
        x.stock(0, 2, 40);
        Scene.land(x, 0);
        Check.due("one of the least length is kept", x.state(1), 'n');
        Check.due("put back", x.account(0, 'u'), 1);
        x.stock(0, 1, 39);
        Scene.land(x, 0);
        Check.due("each kind has its own least", x.state(2), 'n');
    }

    private static void netRoom() {
        Pegdraw x = Scene.match(0, 9);
        x.cast(0, 0);
        int[] lengths = {83, 51, 25};
        for (int i = 0; i < 3; i++) {
            x.stock(0, 0, lengths[i]);
            Scene.land(x, 0);
            Check.due("netted", x.state(i), 'n');
        }
        Check.due("9000 is room", x.netWeight(0), 9000);
        x.setLeast(0, 5);
        x.stock(0, 0, 5);
        Scene.land(x, 0);
        Check.due("9001 is none", x.state(3), 'w');
        Check.due("put back", x.account(0, 'u'), 1);
        Check.due("fright", x.of(3, 'f'), 29);
        Pegdraw y = Scene.match(0, 9);
        y.cast(0, 0);
        y.stock(0, 0, 90);
        Scene.land(y, 0);
        Check.due("the greatest goes into no net", y.state(0), 'w');
        Check.due("netWeight", y.netWeight(0), 0);
    }

    private static void netCount() {
        Pegdraw x = Scene.match(0, 9);
        x.cast(0, 0);
        for (int i = 0; i < 9; i++) {
            x.stock(0, 0, 20);
            Scene.land(x, 0);
            Check.due("eight are room", x.state(i), i < 8 ? 'n' : 'w');
        }
        Check.due("in the net", x.account(0, 'n'), 8);
        Check.due("landed", x.account(0, 'l'), 9);
        Check.due("put back", x.account(0, 'u'), 1);
    }

    private static void landedFromBeside() {
        Pegdraw x = Scene.match(0, 9);
        x.stock(2, 0, 30);
        x.stock(2, 0, 10);
        x.cast(1, 1);
        Scene.land(x, 1);
        Check.due("in the swim of the peg", x.of(0, 's'), 1);
        Scene.land(x, 1);
        Check.due("put back into the line's swim", x.of(1, 's'), 2);
        Check.due("no fish in the water of the peg", x.fishIn(1), 0);
        Scene.end(x);
        x.weigh(1, 0);
        Check.due("back into the water of the peg", x.fishIn(1), 1);
    }

    private static void moveByFeed() {
        Pegdraw x = Scene.match(0, 9);
        x.stock(1, 0, 30);
        x.feed(0, 5);
        x.feed(1, 5);
        x.pass(1);
        Check.due("like feed does not call", x.of(0, 's'), 1);
        x.pass(1);
        Check.due("more feed up the river calls", x.of(0, 's'), 0);
        Check.due("feed where the fish is", x.feedIn(0), 4);
        Check.due("feed where it was", x.feedIn(1), 4);
        x.feed(1, 1);
        x.pass(1);
        Check.due("more feed down the river calls", x.of(0, 's'), 1);
        twoCalls();
        hungerToMove();
    }

    private static void twoCalls() {
        int[][] feeds = {{4, 4, 0}, {4, 5, 2}, {5, 4, 0}, {0, 3, 2}};
        for (int[] one : feeds) {
            Pegdraw x = Scene.bank(3, 0, 9, 9);
            Scene.draw(x, 3, new int[] {0, 2}, 0);
            x.begin(50);
            if (one[0] > 0) {
                x.feed(0, one[0]);
            }
            x.feed(1, one[1]);
            x.stock(1, 0, 30);
            x.pass(1);
            Check.due("with feed " + one[0] + " and " + one[1], x.of(0, 's'), one[2]);
        }
    }

    private static void hungerToMove() {
        Pegdraw x = Scene.match(0, 9);
        x.setLeast(0, 31);
        x.stock(0, 0, 30);
        x.cast(0, 0);
        Scene.land(x, 0);
        x.reel(0);
        x.feed(1, 20);
        Check.due("hunger", x.of(0, 'h'), 21);
        x.pass(90);
        Check.due("hunger below 40", x.of(0, 'h'), 39);
        Check.due("stays", x.of(0, 's'), 0);
        x.pass(5);
        Check.due("hunger at 40 behind the minute", x.of(0, 'h'), 40);
        Check.due("still stays", x.of(0, 's'), 0);
        x.pass(1);
        Check.due("moves", x.of(0, 's'), 1);
    }

    private static void moveByFright() {
        Pegdraw x = Scene.match(9, 9);
        x.stock(0, 0, 30);
        x.setFlow(0);
        x.feed(0, 20);
        x.cast(0, 0);
        int lost = Seeds.withRests(100, 0, 10, 0, 20, 0);
        int missed = Seeds.withRests(100, 0, 10, 9);
        int[] seeds = {lost, lost, missed};
        for (int seed : seeds) {
            x.seed(seed);
            x.pass(1);
        }
        Check.due("fright", x.of(0, 'f'), 42);
        Check.due("stays", x.of(0, 's'), 0);
        int[] more = {missed, missed, missed, missed};
        for (int seed : more) {
            x.seed(seed);
            x.pass(1);
        }
        Check.due("fright was 59 as it moved", x.of(0, 'f'), 58);
        Check.due("still stays", x.of(0, 's'), 0);
        x.seed(missed);
        x.pass(1);
        Check.due("fright was 63 as it moved", x.of(0, 'f'), 62);
        Check.due("flees down the river, from feed", x.of(0, 's'), 1);
        x.reel(0);
        x.pass(1);
        Check.due("flees on", x.of(0, 's'), 2);
        x.pass(1);
        Check.due("fright was 61", x.of(0, 'f'), 60);
        Check.due("stays in the last swim without a call", x.of(0, 's'), 2);
        x.feed(1, 1);
        x.pass(1);
        Check.due("fright was 60, and the last swim's fish follow feed", x.of(0, 's'), 1);
        Check.due("fright", x.of(0, 'f'), 59);
        x.pass(1);
        Check.due("with 59 it stays where no more feed is beside", x.of(0, 's'), 0);
    }

    /** Put back twice it has a fright of 58; three minutes in peace and a miss make it 60, four make it 59. */
    private static void fleeFromSixty() {
        for (int peace = 3; peace <= 4; peace++) {
            Pegdraw x = Scene.match(0, 9);
            x.setFlow(0);
            x.setLeast(0, 90);
            x.stock(0, 0, 30);
            x.pass(90);
            x.pass(90);
            x.feed(0, 20);
            x.cast(0, 0);
            Scene.land(x, 0);
            Scene.land(x, 0);
            Check.due("fright was 59", x.of(0, 'f'), 58);
            Check.due("59 stays", x.of(0, 's'), 0);
            x.reel(0);
            x.pass(peace);
            x.cast(0, 0);
            x.seed(Seeds.withRests(100, 0, 10, 9));
            x.pass(1);
            Check.due("missed", x.account(0, 'm'), 1);
            Check.due("fright", x.of(0, 'f'), 62 - peace);
            Check.due("60 flees, 59 stays", x.of(0, 's'), peace == 3 ? 1 : 0);
        }
    }

    private static void calmAndStarve() {
        Pegdraw x = Scene.match(0, 9);
        x.stock(0, 0, 30);
        x.stock(0, 0, 30);
        x.feed(0, 3);
        x.feed(1, 3);
        x.pass(1);
        Check.due("hunger of minute 0", x.of(0, 'h'), 51);
        Check.due("one less for all its fish", x.feedIn(0), 2);
        Check.due("as much where no fish are", x.feedIn(1), 3);
        Pegdraw y = new Pegdraw();
        y.swim(1, 0);
        y.stock(0, 0, 30);
        y.pass(1);
        y.pass(4);
        Check.due("no more till minute 5", y.of(0, 'h'), 51);
        y.pass(1);
        Check.due("one more in minute 5", y.of(0, 'h'), 52);
        Check.due("feed 0 at least", y.feedIn(0), 0);
        Check.due("fright 0 at least", y.of(0, 'f'), 0);
        y.pass(120);
        y.pass(120);
        Check.due("hunger 99 at most", y.of(0, 'h'), 99);
    }

    private static void hour() {
        Pegdraw x = Scene.bank(3, 0);
        x.stock(0, 0, 30);
        x.stock(0, 0, 31);
        x.stock(0, 0, 31);
        x.stock(1, 0, 90);
        x.poach(0);
        x.pass(59);
        Check.due("not before the hour", x.state(1), 'w');
        x.pass(1);
        Check.due("the heaviest, of like ones the lowest", x.state(1), 't');
        Check.due("one alone", x.state(2), 'w');
        Check.due("one alone", x.state(0), 'w');
        x.pass(60);
        Check.due("the next hour", x.state(2), 't');
        x.round(0);
        x.pass(60);
        Check.due("no line, none taken", x.state(0), 'w');
        Check.due("no line there", x.state(3), 'w');
        Check.due("taken by weight", x.mass('t'), 744);
        Check.due("where it was last", x.of(1, 's'), 0);
    }

    private static void heat() {
        Pegdraw x = new Pegdraw();
        x.swim(2, 0);
        x.swim(3, 0);
        x.swim(1, 0);
        x.stock(0, 0, 30);
        x.stock(0, 0, 30);
        x.stock(1, 0, 90);
        x.stock(2, 0, 29);
        x.setWarmth(24);
        x.pass(60);
        Check.due("24 is not hot", x.mass('d'), 0);
        x.setWarmth(25);
        x.pass(59);
        Check.due("not before the hour", x.mass('d'), 0);
        x.pass(1);
        Check.due("25 is hot", x.state(0), 'd');
        Check.due("one of a swim", x.state(1), 'w');
        Check.due("deep water is cool", x.state(2), 'w');
        Check.due("29 is short", x.state(3), 'w');
        x.poach(0);
        x.stock(0, 0, 50);
        x.pass(60);
        Check.due("the poacher comes first", x.state(4), 't');
        Check.due("then the heat", x.state(1), 'd');
    }

    private static void endOfLines() {
        Pegdraw x = Scene.bank(3, 0, 9, 9);
        Scene.draw(x, 3, new int[] {0, 1}, 0);
        x.begin(10);
        x.stock(0, 0, 30);
        x.cast(0, 0);
        x.pass(9);
        Check.due("line in the last minute", x.lineOf(0), 0);
        x.stock(0, 0, 31);
        x.stock(0, 0, 32);
        int seed = Seeds.withRests(100, 0, 10, 0);
        x.seed(seed);
        int before = x.account(0, 'l');
        x.pass(5);
        Check.due("fishes in the last minute", x.account(0, 'l'), before + 1);
        Check.due("and no more behind it", Scene.z(x), Seeds.next(Seeds.next(Seeds.next(seed))));
        Check.due("pass goes on", x.minute(), 14);
        Check.due("ended", x.phase(), 'e');
        Check.refused("line is out", x, NO_SUCH, () -> x.lineOf(0));
    }

    private static void account() {
        Pegdraw x = Scene.match(0, 9);
        Check.refused("account(2, 'x')", x, INDEX, () -> x.account(2, 'x'));
        Check.refused("account(-1, 'l')", x, INDEX, () -> x.account(-1, 'l'));
        Check.refused("account(0, 'x')", x, ARGUMENT, () -> x.account(0, 'x'));
        x.stock(0, 0, 30);
        x.stock(1, 0, 30);
        x.cast(0, 0);
        Scene.land(x, 0);
        Check.due("landed", x.account(0, 'l'), 1);
        Check.due("in the net", x.account(0, 'n'), 1);
        Check.due("landed by the other", x.account(1, 'l'), 0);
        Scene.end(x);
        Scene.weighAll(x, 2);
        Check.due("over all matches", x.account(0, 'l'), 1);
        Check.due("in the net now", x.account(0, 'n'), 0);
    }

    private static void netWeight() {
        Pegdraw x = Scene.match(0, 9);
        Check.refused("netWeight(2)", x, INDEX, () -> x.netWeight(2));
        Check.refused("netWeight(-1)", x, INDEX, () -> x.netWeight(-1));
        Check.due("empty", x.netWeight(0), 0);
        x.cast(0, 0);
        x.stock(0, 0, 30);
        Scene.land(x, 0);
        x.stock(0, 0, 40);
        Scene.land(x, 0);
        Check.due("two", x.netWeight(0), 337 + 800);
        Check.due("in nets", x.mass('n'), 1137);
        Scene.end(x);
        Check.due("till it is weighed", x.netWeight(0), 1137);
        x.weigh(0, 0);
        Check.due("weighed", x.netWeight(0), 0);
    }
}
