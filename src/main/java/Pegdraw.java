import java.util.ArrayList;
import java.util.NoSuchElementException;

/** A bank of a slow river on match mornings. What each call promises is told in DOC.md. */
public final class Pegdraw {
    private static final int NONE = -1;
    private static final int FULL = 99;
    private static final int LAST_MINUTE = 9999;
    private static final int MOST_ANGLERS = 8;

    private static final char NO_PEGS = 'n';
    private static final char PEGS_DRAWN = 'd';
    private static final char MATCH_ON = 'm';
    private static final char MATCH_ENDED = 'e';

    private static final char IN_WATER = 'w';
    private static final char IN_NET = 'n';
    private static final char EATEN = 'e';
    private static final char DEAD = 'd';
    private static final char TAKEN = 't';

    private final Bank bank = new Bank();
    private final Draws draws = new Draws();
    private final Angler[] anglers = new Angler[MOST_ANGLERS];
    private int anglerCount = 0;
    private final int[] errors = new int[2];
    private final ArrayList<Result> results = new ArrayList<Result>();
    private char stage = NO_PEGS;
    private int golden = NONE;
    private int hat = 0;
    private int pot = 0;
    private int fund = 0;
    private int minute = 0;
    private int end = 0;
    private int crossings = 0;

    public Pegdraw() {
        for (int i = 0; i < anglers.length; i++) {
            anglers[i] = new Angler();
        }
    }

    public int swim(int depth, int snags)
            throws IllegalArgumentException, UnsupportedOperationException, IllegalStateException {
        needRange(depth, 1, 9);
        needRange(snags, 0, 9);
        needNoPegs();
        if (bank.swimCount >= bank.swims.length) {
            throw new IllegalStateException("the bank has no place for another swim");
        }
        return bank.addSwim(depth, snags);
    }

    public boolean open(int swim, boolean is) throws IndexOutOfBoundsException, UnsupportedOperationException {
        Swim place = swimAt(swim);
        needNoPegs();
        boolean was = place.open;
        place.open = is;
        return was;
    }

    public int setFlow(int flow) throws IllegalArgumentException {
        needRange(flow, 0, 9);
        int before = bank.flow;
        bank.flow = flow;
        return before;
    }

    public int setWarmth(int warmth) throws IllegalArgumentException {
        needRange(warmth, 0, 30);
        int before = bank.warmth;
        bank.warmth = warmth;
        return before;
    }

    public int seed(int z) throws IllegalArgumentException {
        needRange(z, 1, Draws.MODULUS - 1);
        int before = draws.z;
        draws.z = z;
        return before;
    }

    public int stock(int swim, int kind, int length)
            throws IndexOutOfBoundsException, IllegalArgumentException, IllegalStateException {
        needSwim(swim);
        needRange(kind, 0, 3);
        needRange(length, 5, 90);
        if (bank.fishCount >= bank.fish.length) {
            throw new IllegalStateException("the river has no place for another fish");
        }
        return bank.addFish(swim, kind, length);
    }

    public int setLeast(int kind, int length) throws IllegalArgumentException {
        needRange(kind, 0, 3);
        needRange(length, 5, 90);
        int before = bank.least[kind];
        bank.least[kind] = length;
        return before;
    }

    public int of(int fish, char what) throws IndexOutOfBoundsException, IllegalArgumentException {
        Fish one = fishAt(fish);
        switch (what) {
            case 'k':
                return one.kind;
            case 'l':
                return one.length;
            case 'g':
                return one.weight;
            case 'h':
                return one.hunger;
            case 'f':
                return one.fright;
            case 's':
                return one.swim;
            case 'c':
                return one.landings;
            default:
                throw new IllegalArgumentException("no such number of a fish");
        }
    }

    public char state(int fish) throws IndexOutOfBoundsException {
        return fishAt(fish).state;
    }

    public int fishIn(int swim) throws IndexOutOfBoundsException {
        needSwim(swim);
        return bank.countIn(swim);
    }

    public int eat(int swim) throws IndexOutOfBoundsException, NoSuchElementException {
        needSwim(swim);
        Fish prey = bank.largestIn(swim);
        if (prey == null) {
            throw new NoSuchElementException("no fish in the water there");
        }
        prey.state = EATEN;
        return prey.number;
    }

    public int angler(int skill)
            throws IllegalArgumentException, UnsupportedOperationException, IllegalStateException {
        needRange(skill, 1, 9);
        needNoPegs();
        if (anglerCount >= anglers.length) {
            throw new IllegalStateException("the bank has no place for another angler");
        }
        anglers[anglerCount].skill = skill;
        return anglerCount++;
    }

    public int draw() throws UnsupportedOperationException {
        needNoPegs();
        if (anglerCount < 2 || countFreePegs() < anglerCount) {
            throw new UnsupportedOperationException("too few anglers, or too few open pegs");
        }
        for (int i = 0; i < anglerCount; i++) {
            givePeg(anglers[i]);
        }
        golden = pegGivenTo(draws.rest(anglerCount));
        pot += 10 * anglerCount;
        stage = PEGS_DRAWN;
        return golden;
    }

    public int pegOf(int angler) throws IndexOutOfBoundsException, NoSuchElementException {
        Angler one = anglerAt(angler);
        if (one.peg == NONE) {
            throw new NoSuchElementException("no peg is drawn");
        }
        return one.peg;
    }

    public int stake(int angler, int cents)
            throws IndexOutOfBoundsException, IllegalArgumentException, UnsupportedOperationException {
        Angler one = anglerAt(angler);
        needRange(cents, 1, 50);
        if (stage != PEGS_DRAWN || one.staked) {
            throw new UnsupportedOperationException("stakes are put in once, between the draw and the match");
        }
        one.staked = true;
        hat += cents;
        return hat;
    }

    public int begin(int minutes) throws IllegalArgumentException, UnsupportedOperationException {
        needRange(minutes, 10, 300);
        if (stage != PEGS_DRAWN) {
            throw new UnsupportedOperationException("no pegs are drawn, or the match was begun");
        }
        stage = MATCH_ON;
        end = minute + minutes;
        return end;
    }

    public char phase() {
        return stage;
    }

    public boolean cast(int angler, int beside)
            throws IndexOutOfBoundsException, IllegalArgumentException, UnsupportedOperationException {
        Angler one = anglerAt(angler);
        needRange(beside, -1, 1);
        int place = one.peg + beside;
        if (one.peg != NONE && !bank.hasSwim(place)) {
            throw new IllegalArgumentException("there is no swim on that side");
        }
        needMatch();
        one.line = NONE;
        Angler other = anglerWithLineIn(place);
        if (other == null) {
            one.line = place;
            return true;
        }
        crossings++;
        if (other.peg != place) {
            other.line = NONE;
        }
        return false;
    }

    public int reel(int angler) throws IndexOutOfBoundsException, NoSuchElementException {
        Angler one = anglerAt(angler);
        int was = placeOfLine(one);
        one.line = NONE;
        return was;
    }

    public int lineOf(int angler) throws IndexOutOfBoundsException, NoSuchElementException {
        return placeOfLine(anglerAt(angler));
    }

    public int feed(int angler, int balls)
            throws IndexOutOfBoundsException, IllegalArgumentException, UnsupportedOperationException {
        Angler one = anglerAt(angler);
        needRange(balls, 1, 20);
        needMatch();
        Swim own = swimAt(one.peg);
        own.feed = more(own.feed, balls);
        return own.feed;
    }

    public int feedIn(int swim) throws IndexOutOfBoundsException {
        return swimAt(swim).feed;
    }

    public int pass(int minutes) throws IllegalArgumentException, IllegalStateException {
        needRange(minutes, 1, 120);
        if (minute + minutes > LAST_MINUTE) {
            throw new IllegalStateException("the day would be too long");
        }
        for (int i = 0; i < minutes; i++) {
            passOneMinute();
        }
        return minute;
    }

    public int minute() {
        return minute;
    }

    public int crossed() {
        return crossings;
    }

    public int account(int angler, char what) throws IndexOutOfBoundsException, IllegalArgumentException {
        Angler one = anglerAt(angler);
        switch (what) {
            case 'l':
                return one.landed;
            case 'u':
                return one.putBack;
            case 'm':
                return one.missed;
            case 'h':
                return one.lost;
            case 'n':
                return one.net.count;
            default:
                throw new IllegalArgumentException("no such account");
        }
    }

    public int netWeight(int angler) throws IndexOutOfBoundsException {
        return anglerAt(angler).net.weight;
    }

    public int setError(int scale, int grams) throws IllegalArgumentException {
        needRange(scale, 0, 1);
        needRange(grams, -50, 50);
        int before = errors[scale];
        errors[scale] = grams;
        return before;
    }

    public int weigh(int angler, int scale)
            throws IndexOutOfBoundsException, IllegalArgumentException, UnsupportedOperationException {
        Angler one = anglerAt(angler);
        needRange(scale, 0, 1);
        if (stage != MATCH_ENDED || one.slip.fresh) {
            throw new UnsupportedOperationException("no match ended, or the net was weighed");
        }
        one.slip.write(one.net, errors[scale]);
        one.net.empty();
        bank.freeFishOf(one.peg);
        int written = one.slip.grams;
        if (allAreWeighed()) {
            finishMatch();
        }
        return written;
    }

    public int claim(int angler) throws IndexOutOfBoundsException, UnsupportedOperationException {
        Slip slip = anglerAt(angler).slip;
        if (stage != MATCH_ENDED || !slip.fresh || slip.claimed) {
            throw new UnsupportedOperationException("no slip of this match, or it was claimed");
        }
        slip.claimed = true;
        slip.grams = slip.trueGrams;
        return slip.grams;
    }

    public int slip(int angler) throws IndexOutOfBoundsException, NoSuchElementException {
        Slip slip = anglerAt(angler).slip;
        if (!slip.written) {
            throw new NoSuchElementException("no slip was written");
        }
        return slip.grams;
    }

    public int matches() {
        return results.size();
    }

    public int points(int match, int angler) throws IndexOutOfBoundsException, NoSuchElementException {
        needAngler(angler);
        return resultOf(match).points[angler];
    }

    public int winner(int match) throws NoSuchElementException {
        return resultOf(match).winner;
    }

    public int total(int angler) throws IndexOutOfBoundsException {
        return anglerAt(angler).standing.leaguePoints();
    }

    public int table(int index) throws NoSuchElementException {
        for (int i = 0; i < anglerCount; i++) {
            if (placeInLeague(i) == index) {
                return i;
            }
        }
        throw new NoSuchElementException("no such place in the league");
    }

    public int pot() {
        return pot;
    }

    public int won(int angler) throws IndexOutOfBoundsException {
        return anglerAt(angler).won;
    }

    public boolean ticket(int angler, boolean is) throws IndexOutOfBoundsException {
        Angler one = anglerAt(angler);
        boolean was = one.ticket;
        one.ticket = is;
        return was;
    }

    public int poach(int swim) throws IndexOutOfBoundsException, UnsupportedOperationException {
        Swim place = swimAt(swim);
        if (place.poached) {
            throw new UnsupportedOperationException("a poacher's line lies there");
        }
        place.poached = true;
        return bank.countPoached();
    }

    public int round(int swim) throws IndexOutOfBoundsException {
        Swim place = swimAt(swim);
        int found = 0;
        Angler sitting = anglerWithPegAt(swim);
        if (sitting != null && !sitting.ticket) {
            sitting.owed += 20;
            found++;
        }
        if (place.poached) {
            place.poached = false;
            fund += 50;
            found++;
        }
        return found;
    }

    public int owes(int angler) throws IndexOutOfBoundsException {
        return anglerAt(angler).owed;
    }

    public int pay(int angler) throws IndexOutOfBoundsException, UnsupportedOperationException {
        Angler one = anglerAt(angler);
        if (one.owed == 0) {
            throw new UnsupportedOperationException("nothing is owed");
        }
        int cents = one.owed;
        one.owed = 0;
        fund += cents;
        return cents;
    }

    public int amnesty() {
        int sum = 0;
        for (int i = 0; i < anglerCount; i++) {
            sum += anglers[i].owed;
            anglers[i].owed = 0;
        }
        return sum;
    }

    public int fund() {
        return fund;
    }

    public long mass(char what) throws IllegalArgumentException {
        switch (what) {
            case 's':
                return bank.stockedMass;
            case IN_WATER:
            case IN_NET:
            case EATEN:
            case DEAD:
            case TAKEN:
                return bank.massOf(what);
            default:
                throw new IllegalArgumentException("no such thing");
        }
    }

    public long checksum() {
        long sum = bank.addTo(7);
        for (int i = 0; i < anglerCount; i++) {
            sum = 31 * sum + anglers[i].net.weight;
            sum = 31 * sum + anglers[i].won;
        }
        sum = 31 * sum + fund;
        sum = 31 * sum + pot;
        sum = 31 * sum + minute;
        return 31 * sum + draws.z;
    }

    public float waterShare() throws ArithmeticException {
        if (bank.fishCount == 0) {
            throw new ArithmeticException("no fish");
        }
        return (float) bank.countInWater() / (float) bank.fishCount;
    }

    public double meanLength() throws ArithmeticException {
        int number = bank.countInWater();
        if (number == 0) {
            throw new ArithmeticException("no fish in the water");
        }
        return (double) bank.lengthInWater() / (double) number;
    }

    public boolean isSound() {
        return bank.massCloses() && bank.levelsAreInRange() && anglersAreSound();
    }

    private static void needRange(int number, int from, int to) {
        if (number < from || number > to) {
            throw new IllegalArgumentException("a number is out of range");
        }
    }

    private void needSwim(int swim) {
        if (!bank.hasSwim(swim)) {
            throw new IndexOutOfBoundsException("no such swim");
        }
    }

    private boolean isAngler(int angler) {
        return angler >= 0 && angler < anglerCount;
    }

    private void needAngler(int angler) {
        if (!isAngler(angler)) {
            throw new IndexOutOfBoundsException("no such angler");
        }
    }

    private void needNoPegs() {
        if (stage != NO_PEGS) {
            throw new UnsupportedOperationException("pegs are drawn");
        }
    }

    private void needMatch() {
        if (stage != MATCH_ON) {
            throw new UnsupportedOperationException("no match goes on");
        }
    }

    private Swim swimAt(int swim) {
        needSwim(swim);
        return bank.swims[swim];
    }

    private Fish fishAt(int fish) {
        if (fish < 0 || fish >= bank.fishCount) {
            throw new IndexOutOfBoundsException("no such fish");
        }
        return bank.fish[fish];
    }

    private Angler anglerAt(int angler) {
        needAngler(angler);
        return anglers[angler];
    }

    private Result resultOf(int match) {
        if (match < 0 || match >= results.size()) {
            throw new NoSuchElementException("no such match is over");
        }
        return results.get(match);
    }

    private int placeOfLine(Angler one) {
        if (one.line == NONE) {
            throw new NoSuchElementException("the line is not in");
        }
        return one.line;
    }

    private void givePeg(Angler one) {
        one.peg = freePegBehind(draws.rest(countFreePegs()));
        one.staked = false;
        one.slip.renew();
    }

    private int pegGivenTo(int angler) {
        return isAngler(angler) ? anglers[angler].peg : NONE;
    }

    private boolean isFreePeg(int swim) {
        return bank.hasSwim(swim) && bank.swims[swim].open && anglerWithPegAt(swim) == null;
    }

    private int countFreePegs() {
        int number = 0;
        for (int i = 0; i < bank.swimCount; i++) {
            if (isFreePeg(i)) {
                number++;
            }
        }
        return number;
    }

    private int freePegBehind(int others) {
        int ahead = 0;
        for (int i = 0; i < bank.swimCount; i++) {
            if (isFreePeg(i)) {
                if (ahead == others) {
                    return i;
                }
                ahead++;
            }
        }
        return NONE;
    }

    private Angler anglerWithPegAt(int swim) {
        for (int i = 0; i < anglerCount; i++) {
            if (anglers[i].peg == swim) {
                return anglers[i];
            }
        }
        return null;
    }

    private Angler anglerWithLineIn(int place) {
        for (int i = 0; i < anglerCount; i++) {
            if (anglers[i].line == place) {
                return anglers[i];
            }
        }
        return null;
    }

    private void passOneMinute() {
        bank.driftFeed();
        for (int i = 0; i < anglerCount; i++) {
            if (anglers[i].line != NONE) {
                tempt(anglers[i]);
            }
        }
        bank.moveFish();
        bank.calmAndStarve(minute % 5 == 0);
        minute++;
        if (minute % 60 == 0) {
            bank.strikeHour();
        }
        if (stage == MATCH_ON && minute >= end) {
            endMatch();
        }
    }

    /** Each draw is made only where the one before it lets things go on: the row of z depends on that. */
    private void tempt(Angler one) {
        Fish fish = bank.hungriestIn(one.line);
        if (fish == null || draws.rest(100) >= bank.urgeToBite(fish)) {
            return;
        }
        if (draws.rest(10) >= one.skill) {
            one.missed++;
            fish.frighten(5);
        } else if (draws.rest(20) < bank.snagsAt(fish.swim)) {
            one.lost++;
            fish.frighten(20);
        } else {
            land(one, fish);
        }
    }

    private void land(Angler one, Fish fish) {
        one.landed++;
        fish.landings++;
        fish.hunger = less(fish.hunger, 30);
        if (bank.isShort(fish) || !one.net.hasRoomFor(fish)) {
            one.putBack++;
            fish.frighten(30);
        } else {
            one.net.add(fish);
            fish.state = IN_NET;
            fish.swim = one.peg;
        }
    }

    private void endMatch() {
        stage = MATCH_ENDED;
        for (int i = 0; i < anglerCount; i++) {
            anglers[i].line = NONE;
        }
    }

    private boolean allAreWeighed() {
        for (int i = 0; i < anglerCount; i++) {
            if (!anglers[i].slip.fresh) {
                return false;
            }
        }
        return true;
    }

    private void finishMatch() {
        Result result = new Result();
        for (int i = 0; i < anglerCount; i++) {
            int points = pointsByRules(anglers[i]);
            result.points[i] = points;
            anglers[i].standing.enter(points, anglers[i].slip.grams);
        }
        result.winner = best(false);
        results.add(result);
        payOut(result.winner);
        for (int i = 0; i < anglerCount; i++) {
            anglers[i].peg = NONE;
        }
        golden = NONE;
        stage = NO_PEGS;
    }

    private int pointsByRules(Angler one) {
        int points = one.slip.grams > 0 ? 1 : 0;
        boolean upper = isInUpperSection(one);
        for (int i = 0; i < anglerCount; i++) {
            Angler other = anglers[i];
            if (isInUpperSection(other) == upper && other.slip.grams < one.slip.grams) {
                points++;
            }
        }
        return points;
    }

    private boolean isInUpperSection(Angler one) {
        int ahead = 0;
        for (int i = 0; i < anglerCount; i++) {
            if (anglers[i].peg < one.peg) {
                ahead++;
            }
        }
        return ahead < (anglerCount + 1) / 2;
    }

    private int best(boolean ofStakersAlone) {
        int best = NONE;
        for (int i = 0; i < anglerCount; i++) {
            boolean counts = anglers[i].staked || !ofStakersAlone;
            if (counts && (best == NONE || anglers[i].slip.grams > anglers[best].slip.grams)) {
                best = i;
            }
        }
        return best;
    }

    private void payOut(int winner) {
        if (winner != NONE && anglers[winner].slip.grams > 0 && anglers[winner].peg == golden) {
            anglers[winner].won += pot;
            pot = 0;
        }
        int lucky = best(true);
        if (lucky != NONE) {
            int share = hat * 9 / 10;
            anglers[lucky].won += share;
            fund += hat - share;
        }
        hat = 0;
    }

    private int placeInLeague(int angler) {
        int ahead = 0;
        for (int i = 0; i < anglerCount; i++) {
            if (i != angler && isAhead(i, angler)) {
                ahead++;
            }
        }
        return ahead;
    }

    private boolean isAhead(int one, int other) {
        Standing mine = anglers[one].standing;
        Standing theirs = anglers[other].standing;
        if (mine.leaguePoints() != theirs.leaguePoints()) {
            return mine.leaguePoints() > theirs.leaguePoints();
        }
        if (mine.grams != theirs.grams) {
            return mine.grams > theirs.grams;
        }
        return one < other;
    }

    private boolean anglersAreSound() {
        for (int i = 0; i < anglerCount; i++) {
            Angler one = anglers[i];
            if (!one.net.holdsNoMoreThanItCan() || (one.line != NONE && stage != MATCH_ON)) {
                return false;
            }
            for (int k = 0; k < i; k++) {
                if (one.peg != NONE && anglers[k].peg == one.peg) {
                    return false;
                }
            }
        }
        return true;
    }

    private static int more(int level, int by) {
        return Math.min(FULL, level + by);
    }

    private static int less(int level, int by) {
        return Math.max(0, level - by);
    }

    private static boolean isLevel(int level) {
        return level >= 0 && level <= FULL;
    }

    /** The row of z. */
    private static final class Draws {
        static final int MODULUS = 2147483647;
        int z = 1;

        int rest(int divisor) {
            z = (int) (z * 48271L % MODULUS);
            return divisor > 0 ? z % divisor : 0;
        }
    }

    private static final class Swim {
        int depth;
        int snags;
        int feed;
        boolean open;
        boolean poached;
    }

    private static final class Fish {
        int number;
        int kind;
        int length;
        int weight;
        int hunger;
        int fright;
        int swim;
        int landings;
        char state;

        boolean isInWaterOf(int place) {
            return state == IN_WATER && swim == place;
        }

        void frighten(int by) {
            fright = more(fright, by);
        }
    }

    /** Swims and fish, and what goes on between them. */
    private static final class Bank {
        final Swim[] swims = new Swim[10];
        int swimCount = 0;
        final Fish[] fish = new Fish[60];
        int fishCount = 0;
        final int[] least = new int[4];
        int flow = 3;
        int warmth = 15;
        long stockedMass = 0;

        Bank() {
            for (int i = 0; i < swims.length; i++) {
                swims[i] = new Swim();
            }
            for (int i = 0; i < fish.length; i++) {
                fish[i] = new Fish();
            }
            for (int i = 0; i < least.length; i++) {
                least[i] = 20;
            }
        }

        boolean hasSwim(int swim) {
            return swim >= 0 && swim < swimCount;
        }

        /** Where there is no swim there is no feed: it calls no fish. */
        int feedAt(int swim) {
            return hasSwim(swim) ? swims[swim].feed : 0;
        }

        int snagsAt(int swim) {
            return hasSwim(swim) ? swims[swim].snags : 0;
        }

        boolean isShort(Fish one) {
            return one.kind >= 0 && one.kind < least.length && one.length < least[one.kind];
        }

        int addSwim(int depth, int snags) {
            Swim one = swims[swimCount];
            one.depth = depth;
            one.snags = snags;
            one.open = true;
            return swimCount++;
        }

        int addFish(int swim, int kind, int length) {
            Fish one = fish[fishCount];
            one.number = fishCount;
            one.kind = kind;
            one.length = length;
            one.weight = length * length * length / 80;
            one.hunger = 50;
            one.swim = swim;
            one.state = IN_WATER;
            stockedMass += one.weight;
            return fishCount++;
        }

        int countIn(int swim) {
            int number = 0;
            for (int i = 0; i < fishCount; i++) {
                if (fish[i].isInWaterOf(swim)) {
                    number++;
                }
            }
            return number;
        }

        boolean hasFishIn(int swim) {
            for (int i = 0; i < fishCount; i++) {
                if (fish[i].isInWaterOf(swim)) {
                    return true;
                }
            }
            return false;
        }

        /** From a length of 5 on each more in length is more in weight: the heaviest is the longest. */
        Fish largestIn(int swim) {
            Fish largest = null;
            for (int i = 0; i < fishCount; i++) {
                if (fish[i].isInWaterOf(swim) && (largest == null || fish[i].weight > largest.weight)) {
                    largest = fish[i];
                }
            }
            return largest;
        }

        Fish hungriestIn(int swim) {
            Fish hungriest = null;
            for (int i = 0; i < fishCount; i++) {
                if (fish[i].isInWaterOf(swim) && (hungriest == null || fish[i].hunger > hungriest.hunger)) {
                    hungriest = fish[i];
                }
            }
            return hungriest;
        }

        int urgeToBite(Fish one) {
            int lure = Math.min(30, 3 * feedAt(one.swim));
            return one.hunger + lure - one.fright - 2 * flow;
        }

        int countPoached() {
            int number = 0;
            for (int i = 0; i < swimCount; i++) {
                if (swims[i].poached) {
                    number++;
                }
            }
            return number;
        }

        void driftFeed() {
            if (flow < 5) {
                return;
            }
            int coming = 0;
            for (int i = 0; i < swimCount; i++) {
                int going = swims[i].feed / 2;
                swims[i].feed = more(swims[i].feed - going, coming);
                coming = going;
            }
        }

        void moveFish() {
            for (int i = 0; i < fishCount; i++) {
                if (fish[i].state == IN_WATER) {
                    fish[i].swim = nextSwimOf(fish[i]);
                }
            }
        }

        int nextSwimOf(Fish one) {
            if (one.fright >= 60 && hasSwim(one.swim + 1)) {
                return one.swim + 1;
            }
            return one.hunger >= 40 ? richestNear(one.swim) : one.swim;
        }

        /** The upper swim is looked at first, and so is kept when the lower one has as much feed. */
        int richestNear(int own) {
            int richest = own;
            if (feedAt(own - 1) > feedAt(richest)) {
                richest = own - 1;
            }
            if (feedAt(own + 1) > feedAt(richest)) {
                richest = own + 1;
            }
            return richest;
        }

        void calmAndStarve(boolean hungrier) {
            for (int i = 0; i < swimCount; i++) {
                if (hasFishIn(i)) {
                    swims[i].feed = less(swims[i].feed, 1);
                }
            }
            for (int i = 0; i < fishCount; i++) {
                Fish one = fish[i];
                if (one.state == IN_WATER) {
                    one.fright = less(one.fright, 1);
                    one.hunger = more(one.hunger, hungrier ? 1 : 0);
                }
            }
        }

        void strikeHour() {
            for (int i = 0; i < swimCount; i++) {
                Fish prey = swims[i].poached ? largestIn(i) : null;
                if (prey != null) {
                    prey.state = TAKEN;
                }
                Fish hot = warmth > 24 && swims[i].depth <= 2 ? largestIn(i) : null;
                if (hot != null && hot.length >= 30) {
                    hot.state = DEAD;
                }
            }
        }

        /** A peg has one angler, so the netted fish of a swim are all of the net at its peg. */
        void freeFishOf(int peg) {
            for (int i = 0; i < fishCount; i++) {
                if (fish[i].state == IN_NET && fish[i].swim == peg) {
                    fish[i].state = IN_WATER;
                    fish[i].frighten(10);
                }
            }
        }

        long massOf(char state) {
            long sum = 0;
            for (int i = 0; i < fishCount; i++) {
                if (fish[i].state == state) {
                    sum += fish[i].weight;
                }
            }
            return sum;
        }

        int countInWater() {
            int number = 0;
            for (int i = 0; i < swimCount; i++) {
                number += countIn(i);
            }
            return number;
        }

        int lengthInWater() {
            int sum = 0;
            for (int i = 0; i < fishCount; i++) {
                if (fish[i].state == IN_WATER) {
                    sum += fish[i].length;
                }
            }
            return sum;
        }

        long addTo(long start) {
            long sum = start;
            for (int i = 0; i < fishCount; i++) {
                sum = 31 * sum + fish[i].swim;
                sum = 31 * sum + fish[i].hunger;
                sum = 31 * sum + fish[i].fright;
                sum = 31 * sum + fish[i].state;
            }
            for (int i = 0; i < swimCount; i++) {
                sum = 31 * sum + swims[i].feed;
            }
            return sum;
        }

        boolean massCloses() {
            long sum = massOf(IN_WATER) + massOf(IN_NET) + massOf(EATEN) + massOf(DEAD) + massOf(TAKEN);
            return sum == stockedMass;
        }

        boolean levelsAreInRange() {
            for (int i = 0; i < swimCount; i++) {
                if (!isLevel(swims[i].feed)) {
                    return false;
                }
            }
            for (int i = 0; i < fishCount; i++) {
                if (!isLevel(fish[i].hunger) || !isLevel(fish[i].fright)) {
                    return false;
                }
            }
            return true;
        }
    }

    private static final class Angler {
        int skill;
        boolean ticket;
        int peg = NONE;
        int line = NONE;
        boolean staked;
        int landed;
        int putBack;
        int missed;
        int lost;
        int won;
        int owed;
        final Net net = new Net();
        final Slip slip = new Slip();
        final Standing standing = new Standing();
    }

    private static final class Net {
        static final int MOST_FISH = 8;
        static final int MOST_WEIGHT = 9000;
        int count;
        int weight;

        boolean hasRoomFor(Fish one) {
            return count < MOST_FISH && weight + one.weight <= MOST_WEIGHT;
        }

        void add(Fish one) {
            count++;
            weight += one.weight;
        }

        void empty() {
            count = 0;
            weight = 0;
        }

        boolean holdsNoMoreThanItCan() {
            return count <= MOST_FISH && weight <= MOST_WEIGHT;
        }
    }

    /** The last slip: it stays to be asked for when it is no longer fresh, of the match that goes on. */
    private static final class Slip {
        boolean written;
        boolean fresh;
        boolean claimed;
        int grams;
        int trueGrams;

        void renew() {
            fresh = false;
            claimed = false;
        }

        void write(Net net, int error) {
            written = true;
            fresh = true;
            trueGrams = net.weight;
            grams = net.count == 0 ? 0 : Math.max(0, net.weight + error);
        }
    }

    private static final class Standing {
        int matches;
        int points;
        int fewest;
        long grams;

        void enter(int morePoints, int moreGrams) {
            fewest = matches == 0 ? morePoints : Math.min(fewest, morePoints);
            matches++;
            points += morePoints;
            grams += moreGrams;
        }

        int leaguePoints() {
            return matches >= 3 ? points - fewest : points;
        }
    }

    /** What was told of a match that is over. */
    private static final class Result {
        final int[] points = new int[MOST_ANGLERS];
        int winner = NONE;
    }
}
