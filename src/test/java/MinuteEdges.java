/** The terms of a minute but for bites, and promises 24 and 25. */
final class MinuteEdges {
    private MinuteEdges() {
    }

    static void run() {
        passRange();
        passBeyondTheLastMinute();
        passInEachPhase();
        slowFlow();
        halfIsCut();
        allByWhatWasAhead();
        goneOutOfTheLast();
        fleeFrom60();
        noFlightFromTheLast();
        callFromHungerOf40();
        callByMoreFeed();
        callOfTwo();
        noCallBeyondTheBank();
        feedWhereFishAre();
        feedIsHeldAt0();
        feedWhereFishCome();
        calmEachMinute();
        hungerEachFifthMinute();
        hungerIsHeldAt99();
        onlyThoseInTheWater();
        onlyThoseInTheWaterMove();
        minuteIsOneMore();
        poacherAtTheHour();
        poacherTakesTheHeaviest();
        heatAbove24();
        heatInShallowWater();
        heatFrom30();
        heatOfLikeOnes();
        poacherAndHeat();
    }

    private static void passRange() {
        Doc.says("Promise 24", "`minutes`: 1 to 120");
        Doc.says("Promise 24", "Throws `IllegalArgumentException` if a number is out of range");
        Edge.range("pass", Pegdraw::new, 1, 120, Pegdraw::pass);
        Check.due("the fewest", new Pegdraw().pass(1), 1);
        Check.due("the most", new Pegdraw().pass(120), 120);
    }

    private static void passBeyondTheLastMinute() {
        Doc.says("Promise 24", "Throws `IllegalStateException` if it would be above 9999");
        Doc.says("Terms", "The minute is 0 at first, up to 9999.");
        Pegdraw x = new Pegdraw();
        Scene.passTo(x, 9879);
        Check.due("120 to 9999", x.pass(120), 9999);
        Check.state("1 to 10000", x, () -> x.pass(1));
        Check.argument("0 at the end", x, () -> x.pass(0));
        Check.argument("121 at the end", x, () -> x.pass(121));
        Check.argument("all minutes at the end", x, () -> x.pass(Integer.MAX_VALUE));
        Check.due("minute", x.minute(), 9999);
        Pegdraw y = new Pegdraw();
        Scene.passTo(y, 9880);
        Check.state("120 to 10000", y, () -> y.pass(120));
        Scene.passTo(y, 9998);
        Check.state("2 to 10000", y, () -> y.pass(2));
        Check.due("1 to 9999", y.pass(1), 9999);
    }

    private static void passInEachPhase() {
        Doc.says("Promise 25", "Returns the minute.");
        Edge.inAllPhases("pass", (x, n) -> x.pass(1));
        Edge.inAllPhases("minute", (x, n) -> x.minute());
        Pegdraw x = Edge.inPhase('e');
        Check.due("minute", x.minute(), 10);
        Check.due("minute behind the match", x.pass(7), 17);
    }

    /** Three swims with anglers at the upper two, and their feed. */
    private static Pegdraw withFeed(int upper, int middle) {
        Pegdraw x = Scene.match(0, 9);
        Scene.feedTo(x, 0, upper);
        Scene.feedTo(x, 1, middle);
        return x;
    }

    private static void feedIs(Pegdraw x, int... due) {
        for (int i = 0; i < due.length; i++) {
            Check.due("feed in swim " + i, x.feedIn(i), due[i]);
        }
    }

    private static void slowFlow() {
        Doc.says("Terms", "(1) With a flow of 5 or more half of the feed of each swim");
        for (int flow = 0; flow <= 9; flow++) {
            Pegdraw x = withFeed(20, 0);
            x.setFlow(flow);
            x.pass(1);
            feedIs(x, flow < 5 ? 20 : 10, flow < 5 ? 0 : 10, 0);
        }
    }

    private static void halfIsCut() {
        Doc.says("Terms", "half of the feed of each swim, cut, goes to the next one down the river");
        int[][] feedsAndHalves = {{1, 0}, {2, 1}, {3, 1}, {98, 49}, {99, 49}};
        for (int[] one : feedsAndHalves) {
            Pegdraw x = withFeed(one[0], 0);
            x.setFlow(5);
            x.pass(1);
            feedIs(x, one[0] - one[1], one[1], 0);
        }
    }

    private static void allByWhatWasAhead() {
        Doc.says("Terms", "99 at most, all by what was ahead");
        Pegdraw x = withFeed(99, 99);
        x.setFlow(9);
        x.pass(1);
        feedIs(x, 50, 99, 49);
        x.pass(1);
        feedIs(x, 25, 75, 74);
        Pegdraw y = withFeed(99, 0);
        y.setFlow(5);
        y.pass(1);
        feedIs(y, 50, 49, 0);
        y.pass(1);
        feedIs(y, 25, 50, 24);
    }

    private static void goneOutOfTheLast() {
        Doc.says("Terms", "out of the last one it is gone");
        Pegdraw x = Scene.bank(2, 0, 1, 1);
        Scene.draw(x, 2, new int[] {0, 1}, 0);
        x.begin(10);
        Scene.feedTo(x, 1, 99);
        x.setFlow(5);
        x.pass(1);
        feedIs(x, 0, 50);
        x.pass(9);
        feedIs(x, 0, 1);
        Scene.weighAll(x, 2);
        x.swim(5, 0);
        feedIs(x, 0, 1, 0);
        Pegdraw full = Scene.bank(10, 0, 1, 1);
        Scene.draw(full, 10, new int[] {8, 9}, 0);
        full.begin(10);
        Scene.feedTo(full, 0, 20);
        Scene.feedTo(full, 1, 20);
        full.setFlow(9);
        full.pass(1);
        feedIs(full, 0, 0, 0, 0, 0, 0, 0, 0, 10, 20);
    }

    /** A fish in the upper one of three swims, its fright brought to 58 by being put back twice. */
    private static Pegdraw putBackTwice() {
        Pegdraw x = Scene.match(0, 9);
        x.setFlow(0);
        x.setLeast(0, 90);
        x.stock(0, 0, 30);
        Scene.passTo(x, 180);
        Scene.feedTo(x, 0, 20);
        x.cast(0, 0);
        Scene.land(x, 0);
        Scene.land(x, 0);
        Check.due("fright", x.of(0, 'f'), 58);
        Check.due("swim", x.of(0, 's'), 0);
        return x;
    }

    private static void fleeFrom60() {
        Doc.says("Terms", "with a fright of 60 or more to the next swim down the river, if there is one");
        Pegdraw x = putBackTwice();
        Scene.rest(x, 0, 4);
        Scene.miss(x, 0);
        Check.due("fright of 59 as it could have fled", x.of(0, 'f'), 58);
        Check.due("it stayed", x.of(0, 's'), 0);
        Pegdraw y = putBackTwice();
        Scene.rest(y, 0, 3);
        Scene.miss(y, 0);
        Check.due("fright of 60 as it fled", y.of(0, 'f'), 59);
        Check.due("it fled, though there is less feed", y.of(0, 's'), 1);
        y.reel(0);
        Pegdraw z = Scene.match(9, 9);
        z.setFlow(0);
        z.stock(0, 0, 30);
        Scene.passTo(z, 180);
        Scene.feedTo(z, 0, 20);
        z.cast(0, 0);
        for (int i = 0; i < 3; i++) {
            Scene.lose(z, 0);
            Check.due("it stays", z.of(0, 's'), 0);
        }
        Scene.lose(z, 0);
        Check.due("fright of 77 as it fled", z.of(0, 'f'), 76);
        Check.due("it fled", z.of(0, 's'), 1);
        z.pass(1);
        Check.due("it fled on", z.of(0, 's'), 2);
        z.pass(1);
        Check.due("there is none to flee to", z.of(0, 's'), 2);
    }

    private static void noFlightFromTheLast() {
        Doc.says("Terms", "otherwise, so also in the last swim, with a hunger of 40 or more");
        Pegdraw x = Scene.frightened(95);
        x.reel(1);
        x.pass(1);
        Check.due("it stays where the feed is", x.of(0, 's'), 1);
        Scene.feedTo(x, 0, 40);
        x.pass(1);
        Check.due("fright", x.of(0, 'f'), 93);
        Check.due("it follows feed up the river", x.of(0, 's'), 0);
        x.pass(1);
        Check.due("and flees down again", x.of(0, 's'), 1);
    }

    /** A fish in the upper swim with a hunger of 21, in minute 2. */
    private static Pegdraw fed() {
        Pegdraw x = Scene.match(0, 9);
        x.setLeast(0, 31);
        x.stock(0, 0, 30);
        x.pass(1);
        x.cast(0, 0);
        Scene.land(x, 0);
        x.reel(0);
        Check.due("hunger", x.of(0, 'h'), 21);
        return x;
    }

    private static void callFromHungerOf40() {
        Doc.says("Terms", "with a hunger of 40 or more to the swim beside the own one");
        Pegdraw x = fed();
        Scene.passTo(x, 95);
        Check.due("hunger", x.of(0, 'h'), 39);
        x.feed(1, 20);
        x.pass(1);
        Check.due("hunger was 39 as it could have moved", x.of(0, 's'), 0);
        Check.due("hunger", x.of(0, 'h'), 40);
        x.pass(1);
        Check.due("hunger of 40 moves it", x.of(0, 's'), 1);
    }

    private static void callByMoreFeed() {
        Doc.says("Terms", "that has more feed than the own one");
        int[][] feedsAndSwims = {{5, 5, 1}, {5, 4, 0}, {5, 6, 1}, {1, 0, 0}, {0, 0, 1}};
        for (int[] one : feedsAndSwims) {
            Pegdraw x = withFeed(one[0], one[1]);
            x.stock(1, 0, 30);
            x.pass(1);
            Check.due("between " + one[0] + " and " + one[1], x.of(0, 's'), one[2]);
            Pegdraw y = withFeed(one[1], one[0]);
            y.stock(0, 0, 30);
            y.pass(1);
            Check.due("from " + one[1] + " to " + one[0], y.of(0, 's'), 1 - one[2]);
        }
    }

    private static void callOfTwo() {
        Doc.says("Terms", "of two the one with more, of like ones the upper one");
        int[][] feedsAndSwims = {{2, 1, 2, 0}, {2, 1, 3, 2}, {3, 1, 2, 0}, {1, 1, 2, 2}, {2, 2, 2, 1}, {99, 98, 99, 0}};
        for (int[] one : feedsAndSwims) {
            Pegdraw x = Scene.bank(3, 0, 9, 9, 9);
            Scene.draw(x, 3, new int[] {0, 1, 2}, 0);
            x.begin(10);
            for (int i = 0; i < 3; i++) {
                Scene.feedTo(x, i, one[i]);
            }
            x.stock(1, 0, 30);
            x.pass(1);
            Check.due("called by " + one[0] + ", " + one[1] + ", " + one[2], x.of(0, 's'), one[3]);
        }
    }

    private static void noCallBeyondTheBank() {
        Doc.says("Terms", "to the swim beside the own one");
        Pegdraw x = Scene.bank(1, 0);
        x.stock(0, 0, 30);
        x.pass(1);
        Check.due("the one swim has none beside it", x.of(0, 's'), 0);
        Pegdraw y = Scene.bank(4, 0, 9, 9);
        Scene.draw(y, 4, new int[] {0, 3}, 0);
        y.begin(10);
        Scene.feedTo(y, 1, 20);
        y.stock(1, 0, 30);
        y.pass(1);
        Check.due("two swims away is no call", y.of(0, 's'), 1);
    }

    private static void feedWhereFishAre() {
        Doc.says("Terms", "(4) Where fish are in the water the feed is 1 less");
        Pegdraw x = withFeed(10, 10);
        x.stock(0, 0, 30);
        x.stock(0, 0, 30);
        x.pass(1);
        feedIs(x, 9, 10, 0);
        x.pass(2);
        Check.due("the fish followed the feed", x.fishIn(1), 2);
        x.eat(1);
        x.eat(1);
        int[] before = {x.feedIn(0), x.feedIn(1)};
        x.pass(5);
        feedIs(x, before);
    }

    private static void feedIsHeldAt0() {
        Doc.says("Terms", "What becomes less is 0 at least");
        Pegdraw x = withFeed(1, 0);
        x.stock(0, 0, 30);
        x.pass(1);
        feedIs(x, 0, 0, 0);
        x.pass(9);
        feedIs(x, 0, 0, 0);
        Check.due("fright", x.of(0, 'f'), 0);
        Check.due("sound", x.isSound(), true);
    }

    private static void feedWhereFishCome() {
        Doc.says("Terms", "Where fish are in the water");
        Pegdraw x = withFeed(3, 10);
        x.stock(0, 0, 30);
        x.pass(1);
        feedIs(x, 3, 9, 0);
    }

    private static void calmEachMinute() {
        Doc.says("Terms", "each fish in the water has a fright of 1 less");
        Pegdraw x = Scene.match(9, 9);
        x.stock(0, 0, 30);
        x.stock(0, 0, 31);
        x.cast(0, 0);
        Scene.miss(x, 0);
        x.reel(0);
        int[] due = {3, 2, 1, 0, 0, 0};
        for (int fright : due) {
            x.pass(1);
            Check.due("fright", x.of(0, 'f'), fright);
            Check.due("fright of the other", x.of(1, 'f'), 0);
        }
    }

    private static void hungerEachFifthMinute() {
        Doc.says("Terms", "and, if the minute of now divides by 5, a hunger of 1 more");
        Pegdraw x = Scene.bank(1, 0);
        x.stock(0, 0, 30);
        int[] due = {51, 51, 51, 51, 51, 52, 52, 52, 52, 52, 53};
        for (int i = 0; i < due.length; i++) {
            x.pass(1);
            Check.due("hunger behind minute " + i, x.of(0, 'h'), due[i]);
        }
    }

    private static void hungerIsHeldAt99() {
        Doc.says("Terms", "what becomes more 99 at most");
        Pegdraw x = Scene.bank(1, 0);
        x.stock(0, 0, 30);
        Scene.passTo(x, 240);
        Check.due("98", x.of(0, 'h'), 98);
        x.pass(1);
        Check.due("99", x.of(0, 'h'), 99);
        x.pass(5);
        Check.due("99 again", x.of(0, 'h'), 99);
        Scene.passTo(x, 9999);
        Check.due("99 in the last minute", x.of(0, 'h'), 99);
        Check.due("sound", x.isSound(), true);
    }

    private static void onlyThoseInTheWater() {
        Doc.says("Terms", "each fish in the water");
        Pegdraw x = Scene.match(0, 9);
        x.stock(0, 0, 30);
        x.cast(0, 0);
        Scene.miss(x, 0);
        Scene.land(x, 0);
        int hunger = x.of(0, 'h');
        int fright = x.of(0, 'f');
        Check.due("hunger", hunger, 21);
        Check.due("fright", fright, 4);
        Check.due("in a net", x.state(0), 'n');
        Scene.feedTo(x, 0, 10);
        x.stock(1, 0, 40);
        x.eat(1);
        x.pass(60);
        Check.due("hunger in a net", x.of(0, 'h'), hunger);
        Check.due("fright in a net", x.of(0, 'f'), fright);
        Check.due("feed at a net", x.feedIn(0), 10);
        Check.due("hunger of one that is eaten", x.of(1, 'h'), 50);
        Check.due("swim of one that is eaten", x.of(1, 's'), 1);
    }

    private static void onlyThoseInTheWaterMove() {
        Doc.says("Terms", "(3) Fish in the water move, by numbers");
        Pegdraw x = Scene.match(0, 9);
        for (int i = 0; i < 4; i++) {
            x.stock(0, 0, 40 - i);
        }
        Scene.passTo(x, 180);
        x.cast(0, 0);
        Scene.land(x, 0);
        x.reel(0);
        x.eat(0);
        Check.due("hunger in the net", x.of(0, 'h'), 56);
        Scene.feedTo(x, 1, 20);
        x.pass(1);
        Check.due("the one in the net stays", x.of(0, 's'), 0);
        Check.due("the eaten one stays", x.of(1, 's'), 0);
        Check.due("the third one moves", x.of(2, 's'), 1);
        Check.due("the fourth one moves, too", x.of(3, 's'), 1);
    }

    private static void minuteIsOneMore() {
        Doc.says("Terms", "A minute goes by so.");
        Doc.says("Terms", "(5) The minute is 1 more.");
        Pegdraw x = new Pegdraw();
        for (int i = 1; i <= 130; i++) {
            Check.due("minute", x.pass(1), i);
        }
    }

    private static void poacherAtTheHour() {
        Doc.says("Terms", "As it divides by 60, each poacher's line takes");
        Pegdraw x = Scene.bank(2, 0);
        for (int i = 0; i < 6; i++) {
            x.stock(i % 2, 0, 30 + i);
        }
        x.poach(0);
        x.poach(1);
        int[] minutes = {1, 59, 60, 61, 119, 120, 121, 180};
        int[] due = {6, 6, 4, 4, 4, 2, 2, 0};
        for (int i = 0; i < minutes.length; i++) {
            Scene.passTo(x, minutes[i]);
            Check.due("in the water in minute " + minutes[i], x.fishIn(0) + x.fishIn(1), due[i]);
        }
        Scene.passTo(x, 240);
        Check.due("none left to take", x.mass('t'), x.mass('s'));
        Check.due("sound", x.isSound(), true);
    }

    private static void poacherTakesTheHeaviest() {
        Doc.says("Terms", "takes the heaviest fish in the water of its swim, of like ones the lowest");
        Pegdraw x = Scene.match(0, 9);
        x.stock(0, 0, 60);
        x.cast(0, 0);
        Scene.land(x, 0);
        x.reel(0);
        int[] lengths = {40, 41, 41, 39};
        for (int length : lengths) {
            x.stock(0, 0, length);
        }
        x.stock(1, 0, 90);
        x.poach(0);
        int[] due = {2, 3, 1, 4};
        for (int i = 0; i < due.length; i++) {
            Scene.passTo(x, 60 * (i + 1));
            Check.due("taken in hour " + (i + 1), x.state(due[i]), 't');
            Check.due("one alone is taken", x.fishIn(0), 3 - i);
        }
        Check.due("the netted one is not", x.state(0), 'n');
        Check.due("the one beside is not", x.state(5), 'w');
    }

    /** One swim of the depth with a fish of the length, an hour later. */
    private static char afterAnHour(int warmth, int depth, int length) {
        Pegdraw x = new Pegdraw();
        x.swim(depth, 0);
        x.setWarmth(warmth);
        x.stock(0, 0, length);
        Scene.passTo(x, 59);
        Check.due("not before the hour", x.state(0), 'w');
        x.pass(1);
        return x.state(0);
    }

    private static void heatAbove24() {
        Doc.says("Terms", "and with a warmth above 24 the longest one in the water");
        int[] warmths = {0, 15, 23, 24, 25, 30};
        for (int warmth : warmths) {
            Check.due("warmth of " + warmth, afterAnHour(warmth, 1, 90), warmth > 24 ? 'd' : 'w');
        }
    }

    private static void heatInShallowWater() {
        Doc.says("Terms", "of each swim with a depth of 2 or less");
        for (int depth = 1; depth <= 9; depth++) {
            Check.due("depth of " + depth, afterAnHour(25, depth, 90), depth <= 2 ? 'd' : 'w');
        }
        Pegdraw x = new Pegdraw();
        for (int i = 0; i < 10; i++) {
            x.swim(1 + i % 3, 0);
            x.stock(i, 0, 40);
        }
        x.setWarmth(30);
        x.pass(60);
        for (int i = 0; i < 10; i++) {
            Check.due("in each shallow swim", x.state(i), i % 3 < 2 ? 'd' : 'w');
        }
    }

    private static void heatFrom30() {
        Doc.says("Terms", "if its length is 30 or more");
        int[] lengths = {5, 29, 30, 31, 90};
        for (int length : lengths) {
            Check.due("length of " + length, afterAnHour(30, 2, length), length >= 30 ? 'd' : 'w');
        }
    }

    private static void heatOfLikeOnes() {
        Doc.says("Terms", "if its length is 30 or more, of like ones the lowest, dies");
        Pegdraw x = new Pegdraw();
        x.swim(1, 0);
        int[] lengths = {30, 31, 31, 29};
        for (int length : lengths) {
            x.stock(0, 0, length);
        }
        x.setWarmth(25);
        int[] due = {1, 2, 0};
        for (int i = 0; i < due.length; i++) {
            Scene.passTo(x, 60 * (i + 1));
            Check.due("dead in hour " + (i + 1), x.state(due[i]), 'd');
            Check.due("one alone dies", x.fishIn(0), 3 - i);
        }
        x.pass(60);
        Check.due("29 does not die", x.state(3), 'w');
    }

    private static void poacherAndHeat() {
        Doc.says("Terms", "each poacher's line takes the heaviest fish in the water of its swim, of like ones the lowest; and");
        Pegdraw x = new Pegdraw();
        x.swim(1, 0);
        x.stock(0, 0, 30);
        x.stock(0, 0, 31);
        x.poach(0);
        x.setWarmth(25);
        x.pass(60);
        Check.due("the poacher's line is first", x.state(1), 't');
        Check.due("then comes the heat", x.state(0), 'd');
        Pegdraw y = new Pegdraw();
        y.swim(1, 0);
        y.stock(0, 0, 30);
        y.poach(0);
        y.setWarmth(25);
        y.pass(60);
        Check.due("nothing is left for the heat", y.state(0), 't');
        Check.due("nothing is dead", y.mass('d'), 0);
    }
}
