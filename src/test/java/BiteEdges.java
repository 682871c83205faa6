/** The terms of bites and nets, and promises 27 and 28. */
final class BiteEdges {
    private static final int NO_BITE = 0;
    private static final int BITE = 1;

    private BiteEdges() {
    }

    static void run() {
        hungerDecides();
        feedCalls();
        feedCallsFor30AtMost();
        frightLessens();
        flowLessens();
        noBiteWithoutAnUrge();
        biteWithAllUrge();
        hungriestBites();
        lowestOfLikeOnesBites();
        noDrawWithoutAFish();
        drawsByNumbersOfAnglers();
        skillHooks();
        missFrightens();
        snagsLose();
        snagsOfTheLine();
        lossFrightens();
        landingStills();
        shorterThanTheLeast();
        eightFishInANet();
        weightInANet();
        backIntoThatSwim();
        putBackFrightens();
        intoTheSwimOfThePeg();
        netIsEmptyForTheNextMatch();
        accounts();
        accountsOfNobody();
        netWeight();
        massCloses();
    }

    /** Three swims; one fish of a length of 40, a hunger of 50 and no fright with the line of angler 0; no flow. */
    private static Pegdraw oneFish(int snags, int skill) {
        Pegdraw x = Scene.match(snags, skill);
        x.setFlow(0);
        x.stock(0, 0, 40);
        x.cast(0, 0);
        return x;
    }

    /** How many draws the next minute makes: one for no bite, two for a miss, three for a loss or a landing. */
    private static int drawsOfTheNextMinute(Pegdraw x, int... divisorsAndRests) {
        int seed = Seeds.withRests(divisorsAndRests);
        x.seed(seed);
        x.pass(1);
        long z = seed;
        int draws = 0;
        while (z != Scene.z(x) && draws < 10) {
            z = Seeds.next(z);
            draws++;
        }
        return draws;
    }

    private static int bites(Pegdraw x, int rest) {
        int before = x.account(0, 'l') + x.account(0, 'm') + x.account(0, 'h');
        int draws = drawsOfTheNextMinute(x, 100, rest);
        int bites = x.account(0, 'l') + x.account(0, 'm') + x.account(0, 'h') - before;
        Check.due("one draw alone without a bite", draws == 1, bites == NO_BITE);
        return bites;
    }

    private static void hungerDecides() {
        Doc.says("Terms", "bites, if the rest of a draw by 100 is below its hunger");
        int[] rests = {0, 1, 49, 50, 51, 98, 99};
        for (int rest : rests) {
            Check.due("rest of " + rest, bites(oneFish(0, 9), rest), rest < 50 ? BITE : NO_BITE);
        }
        Pegdraw x = oneFish(0, 9);
        x.reel(0);
        x.pass(6);
        x.cast(0, 0);
        Check.due("hunger", x.of(0, 'h'), 52);
        Check.due("at the hunger", bites(x, 52), NO_BITE);
        Check.due("below the hunger", bites(x, 51), BITE);
    }

    private static void feedCalls() {
        Doc.says("Terms", "and three times the feed there");
        int[] feeds = {0, 1, 2, 8, 9, 10};
        for (int feed : feeds) {
            Pegdraw x = oneFish(0, 9);
            Scene.feedTo(x, 0, feed);
            Check.due("at the urge with feed of " + feed, bites(x, 50 + 3 * feed), NO_BITE);
            Pegdraw y = oneFish(0, 9);
            Scene.feedTo(y, 0, feed);
            Check.due("below the urge with feed of " + feed, bites(y, 49 + 3 * feed), BITE);
        }
        Pegdraw beside = oneFish(0, 9);
        Scene.feedTo(beside, 1, 20);
        Check.due("feed beside is no call to bite", bites(beside, 50), NO_BITE);
        Pegdraw guest = Scene.match(0, 9);
        guest.setFlow(0);
        guest.stock(1, 0, 40);
        guest.cast(0, 1);
        Scene.feedTo(guest, 1, 5);
        Check.due("feed in the swim of the line, at the urge", bites(guest, 65), NO_BITE);
        Check.due("feed in the swim of the line, now less", bites(guest, 62), BITE);
    }

    private static void feedCallsFor30AtMost() {
        Doc.says("Terms", "that being 30 at most");
        int[] feeds = {10, 11, 12, 30, 31, 98, 99};
        for (int feed : feeds) {
            Pegdraw x = oneFish(0, 9);
            Scene.feedTo(x, 0, feed);
            Check.due("80 with feed of " + feed, bites(x, 80), NO_BITE);
            Pegdraw y = oneFish(0, 9);
            Scene.feedTo(y, 0, feed);
            Check.due("79 with feed of " + feed, bites(y, 79), BITE);
        }
    }

    private static void frightLessens() {
        Doc.says("Terms", "less its fright and twice the flow");
        Pegdraw x = oneFish(0, 5);
        Scene.miss(x, 0);
        Check.due("fright", x.of(0, 'f'), 4);
        Check.due("at 51 less 4", bites(x, 47), NO_BITE);
        Check.due("fright", x.of(0, 'f'), 3);
        Check.due("below 51 less 3", bites(x, 47), BITE);
    }

    private static void flowLessens() {
        Doc.says("Terms", "twice the flow");
        for (int flow = 0; flow <= 9; flow++) {
            Pegdraw x = oneFish(0, 5);
            x.setFlow(flow);
            Check.due("at the urge with a flow of " + flow, bites(x, 50 - 2 * flow), NO_BITE);
            Pegdraw y = oneFish(0, 5);
            y.setFlow(flow);
            Check.due("below the urge with a flow of " + flow, bites(y, 49 - 2 * flow), BITE);
        }
    }

    /** Landed and put back, it has a hunger of 21 and a fright of 29 in minute 2. */
    private static Pegdraw putBack() {
        Pegdraw x = oneFish(0, 9);
        x.reel(0);
        x.pass(1);
        x.cast(0, 0);
        x.setLeast(0, 90);
        Scene.land(x, 0);
        Check.due("hunger", x.of(0, 'h'), 21);
        Check.due("fright", x.of(0, 'f'), 29);
        return x;
    }

    private static void noBiteWithoutAnUrge() {
        Doc.says("Terms", "if the rest of a draw by 100 is below its hunger, and three times the feed there");
        Check.due("an urge of -8, and the least rest", bites(putBack(), 0), NO_BITE);
        Pegdraw fast = putBack();
        fast.setFlow(9);
        Check.due("an urge of -26, and the least rest", bites(fast, 0), NO_BITE);
        Check.due("an urge below 0, and the greatest rest", bites(fast, 99), NO_BITE);
        Pegdraw x = putBack();
        Scene.rest(x, 0, 7);
        Check.due("hunger and fright alike", x.of(0, 'h') - x.of(0, 'f'), 0);
        Check.due("an urge of 0, and the least rest", bites(x, 0), NO_BITE);
        Check.due("an urge of 1, and the least rest", bites(x, 0), BITE);
        Pegdraw y = putBack();
        Scene.rest(y, 0, 8);
        Check.due("an urge of 1, and the next rest", bites(y, 1), NO_BITE);
    }

    private static void biteWithAllUrge() {
        Doc.says("Terms", "below its hunger, and three times the feed there, that being 30 at most");
        Pegdraw x = Scene.match(0, 9);
        x.setFlow(0);
        x.stock(0, 0, 40);
        x.pass(120);
        x.pass(60);
        Scene.feedTo(x, 0, 20);
        x.cast(0, 0);
        Check.due("hunger", x.of(0, 'h'), 86);
        Check.due("an urge of 116, and the greatest rest", bites(x, 99), BITE);
    }

    private static void hungriestBites() {
        Doc.says("Terms", "of the fish in the water in that swim the hungriest one");
        Pegdraw x = oneFish(0, 9);
        x.setLeast(0, 90);
        Scene.land(x, 0);
        x.stock(1, 0, 40);
        x.stock(0, 0, 40);
        x.stock(0, 0, 90);
        Scene.land(x, 0);
        Check.due("the hungriest of the swim, landed", x.of(2, 'c'), 1);
        Check.due("not the one beside", x.of(1, 'c'), 0);
        Check.due("not a longer one", x.of(3, 'c'), 0);
        Check.due("not the less hungry one", x.of(0, 'c'), 1);
        Scene.land(x, 0);
        Check.due("then the one that is the hungriest now", x.of(3, 'c'), 1);
    }

    private static void lowestOfLikeOnesBites() {
        Doc.says("Terms", "the hungriest one, of like ones the lowest, bites");
        Pegdraw x = Scene.match(0, 9);
        for (int i = 0; i < 4; i++) {
            x.stock(0, 0, 40 - i);
        }
        x.cast(0, 0);
        for (int i = 0; i < 4; i++) {
            Check.due("in the water", x.state(i), 'w');
            Scene.land(x, 0);
            Check.due("the lowest is landed", x.state(i), 'n');
        }
    }

    private static void noDrawWithoutAFish() {
        Doc.says("Terms", "without a fish there is no draw");
        Pegdraw x = Scene.match(0, 9);
        x.stock(1, 0, 40);
        x.cast(0, 0);
        int z = Scene.z(x);
        x.pass(5);
        Check.due("z, no fish being there", Scene.z(x), z);
        Pegdraw y = oneFish(0, 9);
        Scene.land(y, 0);
        z = Scene.z(y);
        y.pass(5);
        Check.due("z, the one fish being in the net", Scene.z(y), z);
        y.stock(0, 0, 40);
        y.eat(0);
        y.pass(5);
        Check.due("z, the other fish being eaten", Scene.z(y), z);
        Pegdraw w = oneFish(0, 9);
        w.reel(0);
        z = Scene.z(w);
        w.pass(5);
        Check.due("z, no line being in", Scene.z(w), z);
    }

    private static void drawsByNumbersOfAnglers() {
        Doc.says("Terms", "(2) Each angler with a line in, by numbers");
        Pegdraw x = Scene.bank(3, 9, 9, 9);
        Scene.draw(x, 3, new int[] {2, 0}, 0);
        x.begin(10);
        x.stock(0, 0, 40);
        x.stock(2, 0, 40);
        x.cast(1, 0);
        x.cast(0, 0);
        Check.due("draws", drawsOfTheNextMinute(x, 100, 0, 10, 9, 100, 0, 10, 0), 5);
        Check.due("the first two are of angler 0", x.account(0, 'm'), 1);
        Check.due("the others of angler 1", x.account(1, 'h') + x.account(1, 'l'), 1);
        Pegdraw y = Scene.match(0, 9);
        y.stock(0, 0, 40);
        y.stock(1, 0, 40);
        y.cast(0, 0);
        y.cast(1, 0);
        Check.due("draws", drawsOfTheNextMinute(y, 100, 99, 100, 0, 10, 9), 3);
        Check.due("the first one is of angler 0", y.account(0, 'm'), 0);
        Check.due("the others of angler 1", y.account(1, 'm'), 1);
    }

    private static void skillHooks() {
        Doc.says("Terms", "it is hooked if the rest of another draw by 10 is below the angler's skill");
        for (int skill = 1; skill <= 9; skill++) {
            Pegdraw x = oneFish(0, skill);
            Check.due("draws", drawsOfTheNextMinute(x, 100, 0, 10, skill - 1), 3);
            Check.due("hooked by a skill of " + skill, x.account(0, 'l'), 1);
            Pegdraw y = oneFish(0, skill);
            Check.due("draws", drawsOfTheNextMinute(y, 100, 0, 10, skill), 2);
            Check.due("missed by a skill of " + skill, y.account(0, 'm'), 1);
            Check.due("not landed", y.account(0, 'l') + y.account(0, 'h'), 0);
        }
    }

    private static void missFrightens() {
        Doc.says("Terms", "otherwise its fright is 5 more");
        Pegdraw calm = oneFish(9, 5);
        Scene.miss(calm, 0);
        Check.due("fright of one missed, a minute later", calm.of(0, 'f'), 4);
        Check.due("hunger of one missed", calm.of(0, 'h'), 51);
        int[][] frights = {{93, 97}, {94, 98}, {95, 98}};
        for (int[] one : frights) {
            Pegdraw x = Scene.frightened(one[0]);
            Scene.miss(x, 1);
            Check.due("5 more than " + one[0] + ", 99 at most, 1 less", x.of(0, 'f'), one[1]);
        }
    }

    private static void snagsLose() {
        Doc.says("Terms", "If it is hooked, it is lost if the rest of another draw by 20 is below the snags there");
        for (int snags = 0; snags <= 9; snags++) {
            Pegdraw x = oneFish(snags, 9);
            Check.due("draws", drawsOfTheNextMinute(x, 100, 0, 10, 0, 20, snags), 3);
            Check.due("landed at snags of " + snags, x.account(0, 'l'), 1);
            if (snags > 0) {
                Pegdraw y = oneFish(snags, 9);
                Check.due("draws", drawsOfTheNextMinute(y, 100, 0, 10, 0, 20, snags - 1), 3);
                Check.due("lost at snags of " + snags, y.account(0, 'h'), 1);
                Check.due("not landed", y.account(0, 'l') + y.account(0, 'm'), 0);
            }
        }
        Pegdraw x = oneFish(9, 9);
        drawsOfTheNextMinute(x, 100, 0, 10, 0, 20, 19);
        Check.due("landed by the greatest rest", x.account(0, 'l'), 1);
    }

    private static void snagsOfTheLine() {
        Doc.says("Terms", "below the snags there");
        for (int own = 0; own <= 9; own += 9) {
            Pegdraw x = new Pegdraw();
            x.swim(5, own);
            x.swim(5, 9 - own);
            x.angler(9);
            x.angler(9);
            Scene.draw(x, 2, new int[] {0, 1}, 0);
            x.begin(10);
            x.stock(1, 0, 40);
            x.cast(0, 1);
            drawsOfTheNextMinute(x, 100, 0, 10, 0, 20, 4);
            Check.due("lost beside", x.account(0, 'h'), own == 0 ? 1 : 0);
            Check.due("landed from beside", x.account(0, 'l'), own == 0 ? 0 : 1);
        }
    }

    private static void lossFrightens() {
        Doc.says("Terms", "and its fright is 20 more");
        Pegdraw calm = oneFish(9, 5);
        Scene.lose(calm, 0);
        Check.due("fright of one lost, a minute later", calm.of(0, 'f'), 19);
        Check.due("hunger of one lost", calm.of(0, 'h'), 51);
        int[][] frights = {{78, 97}, {79, 98}, {80, 98}, {95, 98}};
        for (int[] one : frights) {
            Pegdraw x = Scene.frightened(one[0]);
            Scene.lose(x, 1);
            Check.due("20 more than " + one[0] + ", 99 at most, 1 less", x.of(0, 'f'), one[1]);
        }
    }

    private static void landingStills() {
        Doc.says("Terms", "otherwise it is landed, and its hunger 30 less");
        int[][] minutesAndHungers = {{36, 28, 0}, {41, 29, 0}, {46, 30, 0}, {51, 31, 1}, {56, 32, 2}};
        for (int[] one : minutesAndHungers) {
            Pegdraw x = putBack();
            Scene.rest(x, 0, one[0] - 2);
            Check.due("hunger", x.of(0, 'h'), one[1]);
            Scene.land(x, 0);
            Check.due("30 less than " + one[1] + ", 0 at least", x.of(0, 'h'), one[2]);
            Check.due("sound", x.isSound(), true);
        }
        Pegdraw x = oneFish(0, 9);
        Scene.land(x, 0);
        Check.due("50 less 30, in the net", x.of(0, 'h'), 20);
        Check.due("no more fright in the net", x.of(0, 'f'), 0);
    }

    private static void shorterThanTheLeast() {
        Doc.says("Terms", "If it is shorter than the least of its kind");
        int[][] lengthsAndLeasts = {{5, 5}, {5, 6}, {39, 40}, {40, 40}, {41, 40}, {89, 90}};
        for (int[] one : lengthsAndLeasts) {
            for (int kind = 0; kind < 4; kind++) {
                Pegdraw x = Scene.match(0, 9);
                x.setLeast(kind, one[1]);
                x.stock(0, kind, one[0]);
                x.cast(0, 0);
                Scene.land(x, 0);
                boolean isShort = one[0] < one[1];
                Check.due(one[0] + " by a least of " + one[1], x.state(0), isShort ? 'w' : 'n');
                Check.due("put back", x.account(0, 'u'), isShort ? 1 : 0);
            }
        }
    }

    private static Pegdraw netOf(int... lengths) {
        Pegdraw x = Scene.match(0, 9);
        for (int kind = 0; kind < 4; kind++) {
            x.setLeast(kind, 5);
        }
        x.cast(0, 0);
        for (int length : lengths) {
            x.stock(0, 0, length);
            Scene.land(x, 0);
        }
        Check.due("in the net", x.account(0, 'n'), lengths.length);
        return x;
    }

    private static void landOneMore(Pegdraw x, int length, char state) {
        int fish = x.stock(0, 3, length);
        int before = x.account(0, 'u');
        Scene.land(x, 0);
        Check.due("state of one of " + length, x.state(fish), state);
        Check.due("put back", x.account(0, 'u'), before + (state == 'w' ? 1 : 0));
    }

    private static void eightFishInANet() {
        Doc.says("Terms", "A net holds at most 8 fish");
        Pegdraw x = netOf(20, 20, 20, 20, 20, 20, 20);
        landOneMore(x, 20, 'n');
        Check.due("eight", x.account(0, 'n'), 8);
        landOneMore(x, 5, 'w');
        landOneMore(x, 20, 'w');
        Check.due("still eight", x.account(0, 'n'), 8);
        Check.due("weight of eight", x.netWeight(0), 800);
        x.stock(1, 0, 20);
        x.reel(0);
        x.cast(1, 0);
        Scene.land(x, 1);
        Check.due("the other's net has room", x.account(1, 'n'), 1);
    }

    /** 7147, 1658 and 195 are 9000; a length of 89 is 8812, which leaves 188: 24 is 172, 25 is 195. */
    private static void weightInANet() {
        Doc.says("Terms", "and at most 9000 of weight");
        Doc.says("Terms", "or the net has no room, it goes back");
        Pegdraw x = netOf(83, 51);
        landOneMore(x, 25, 'n');
        Check.due("9000 are held", x.netWeight(0), 9000);
        landOneMore(x, 5, 'w');
        Check.due("9001 are not", x.netWeight(0), 9000);
        Pegdraw y = netOf(89);
        landOneMore(y, 25, 'w');
        landOneMore(y, 24, 'n');
        Check.due("a lighter one has room", y.netWeight(0), 8984);
        Pegdraw z = netOf();
        landOneMore(z, 90, 'w');
        Check.due("9112 alone have none", z.netWeight(0), 0);
        landOneMore(z, 89, 'n');
        Check.due("8812 alone have", z.netWeight(0), 8812);
    }

    private static void backIntoThatSwim() {
        Doc.says("Terms", "it goes back into that swim, its fright being 30 more");
        Pegdraw x = Scene.match(0, 9);
        x.setLeast(0, 41);
        x.stock(2, 0, 40);
        x.cast(1, 1);
        Scene.land(x, 1);
        Check.due("in the water", x.state(0), 'w');
        Check.due("of the swim of the line", x.of(0, 's'), 2);
        Check.due("fright, a minute later", x.of(0, 'f'), 29);
        Check.due("hunger, a minute of 0 later", x.of(0, 'h'), 21);
    }

    private static void putBackFrightens() {
        Doc.says("Terms", "its fright being 30 more; otherwise");
        int[][] frights = {{68, 97}, {69, 98}, {70, 98}, {95, 98}};
        for (int[] one : frights) {
            Pegdraw x = Scene.frightened(one[0]);
            x.setLeast(0, 31);
            Scene.land(x, 1);
            Check.due("put back", x.account(1, 'u'), 1);
            Check.due("30 more than " + one[0] + ", 99 at most, 1 less", x.of(0, 'f'), one[1]);
        }
    }

    private static void intoTheSwimOfThePeg() {
        Doc.says("Terms", "otherwise it is in the net, and in the swim of the peg");
        for (int beside = -1; beside <= 1; beside++) {
            Pegdraw x = Scene.match(0, 9);
            x.stock(1 + beside, 0, 40);
            x.cast(1, beside);
            Scene.land(x, 1);
            Check.due("in the net", x.state(0), 'n');
            Check.due("in the swim of the peg", x.of(0, 's'), 1);
        }
    }

    private static void netIsEmptyForTheNextMatch() {
        Doc.says("Terms", "A net holds at most 8 fish, and at most 9000 of weight.");
        Pegdraw x = netOf(20, 20, 20, 20, 20, 20, 20, 20);
        Scene.end(x);
        Scene.weighAll(x, 2);
        Check.due("in the net", x.account(0, 'n'), 0);
        Scene.draw(x, 3, new int[] {0, 1}, 0);
        x.begin(100);
        x.cast(0, 0);
        for (int i = 0; i < 8; i++) {
            landOneMore(x, 20, 'n');
        }
        landOneMore(x, 20, 'w');
    }

    private static void accounts() {
        Doc.says("Promise 27", "`what`: 'l' landed, with those put back, 'u' put back, 'm' missed, 'h' lost when hooked");
        Doc.says("Promise 27", "'n' in the net now");
        Doc.says("Promise 27", "Throws `IllegalArgumentException` if there is no such account");
        Edge.letters("account", () -> Scene.bank(0, 0, 1), "lumhn", (x, what) -> x.account(0, what));
        Pegdraw x = Scene.match(9, 9);
        x.setLeast(1, 41);
        for (int i = 0; i < 7; i++) {
            x.stock(0, i == 0 ? 1 : 0, 40 + i % 2);
        }
        x.cast(0, 0);
        Scene.land(x, 0);
        Scene.land(x, 0);
        Scene.land(x, 0);
        Scene.miss(x, 0);
        Scene.lose(x, 0);
        Scene.lose(x, 0);
        accountsAre(x, 3, 1, 1, 2, 2);
        Check.due("an urge that is too small is no miss", bites(x, 99), NO_BITE);
        accountsAre(x, 3, 1, 1, 2, 2);
        Scene.end(x);
        Scene.weighAll(x, 2);
        Scene.draw(x, 3, new int[] {0, 1}, 0);
        accountsAre(x, x.account(0, 'l'), x.account(0, 'u'), x.account(0, 'm'), x.account(0, 'h'), 0);
        Check.isTrue("over all matches", x.account(0, 'l') >= 3 && x.account(0, 'h') >= 2);
        Check.due("of the other", x.account(1, 'l') + x.account(1, 'm') + x.account(1, 'h') + x.account(1, 'u'), 0);
    }

    private static void accountsAre(Pegdraw x, int... due) {
        for (int i = 0; i < due.length; i++) {
            Check.due("account of " + "lumhn".charAt(i), x.account(0, "lumhn".charAt(i)), due[i]);
        }
    }

    private static void accountsOfNobody() {
        Doc.says("Promise 27", "Throws `IndexOutOfBoundsException` if there is no such angler");
        Edge.anglers("account", (x, angler) -> x.account(angler, 'l'));
        Edge.inAllPhases("account", (x, angler) -> x.account(angler, 'n'));
        Pegdraw x = Edge.inPhase('n');
        Check.index("no such account of nobody", x, () -> x.account(2, 'x'));
        Check.index("no such account of angler -1", x, () -> x.account(-1, 'x'));
    }

    private static void netWeight() {
        Doc.says("Promise 28", "Throws `IndexOutOfBoundsException` if there is no such angler");
        Edge.anglers("netWeight", Pegdraw::netWeight);
        Edge.inAllPhases("netWeight", Pegdraw::netWeight);
        Pegdraw x = netOf(5, 5, 40);
        Check.due("1, 1 and 800", x.netWeight(0), 802);
        Check.due("the other's net", x.netWeight(1), 0);
        Check.due("in nets", x.mass('n'), 802);
    }

    private static void massCloses() {
        Doc.says("Terms", "and the mass of all fish closes");
        Pegdraw x = Scene.oneOfEach();
        for (int i = 0; i < 5; i++) {
            Check.due("mass", x.mass('w') + x.mass('n') + x.mass('e') + x.mass('d') + x.mass('t'), x.mass('s'));
            if (x.phase() == 'm') {
                Scene.end(x);
            } else if (x.phase() == 'e') {
                Scene.weighAll(x, 2);
            } else {
                x.stock(2, 0, 90);
            }
        }
    }
}
