import java.util.ArrayList;
import java.util.Arrays;
import java.util.List;

/** The document's words once more, in rows of numbers and lists and without a thought of room: what answers are due. */
final class Model {
    private static final String INDEX = "IndexOutOfBoundsException";
    private static final String ARGUMENT = "IllegalArgumentException";
    private static final String UNSUPPORTED = "UnsupportedOperationException";
    private static final String STATE = "IllegalStateException";
    private static final String NO_SUCH = "NoSuchElementException";
    private static final String ARITHMETIC = "ArithmeticException";

    private final List<int[]> swims = new ArrayList<>();
    private static final int DEPTH = 0;
    private static final int SNAGS = 1;
    private static final int FEED = 2;
    private static final int OPEN = 3;
    private static final int POACHED = 4;

    private final List<int[]> fish = new ArrayList<>();
    private static final String FISH_NUMBERS = "klghfsc";
    private final StringBuilder states = new StringBuilder();

    private final List<Integer> skills = new ArrayList<>();
    private final List<List<Integer>> nets = new ArrayList<>();
    private final List<int[]> accounts = new ArrayList<>();
    private final List<List<Integer>> slips = new ArrayList<>();
    private final boolean[] tickets = new boolean[8];
    private final int[] won = new int[8];
    private final int[] owed = new int[8];
    private final int[] lines = new int[8];
    private final int[] stakes = new int[8];
    private final int[] trueWeights = new int[8];
    private final boolean[] weighed = new boolean[8];
    private final boolean[] claimed = new boolean[8];
    private List<Integer> pegs = null;
    private final List<int[]> told = new ArrayList<>();
    private final List<List<Integer>> pointsOfMatches = new ArrayList<>();

    private final int[] least = {20, 20, 20, 20};
    private final int[] errors = {0, 0};
    private int flow = 3;
    private int warmth = 15;
    private long z = 1;
    private int golden;
    private int pot;
    private int fund;
    private int minute;
    private int crossed;
    private boolean begun;
    private int end;

    Model() {
        Arrays.fill(lines, -1);
    }

    private static boolean out(int number, int from, int to) {
        return number < from || number > to;
    }

    private static String same(long number) {
        return Long.toString(number);
    }

    private int anglers() {
        return skills.size();
    }

    char phase() {
        if (pegs == null) {
            return 'n';
        }
        if (!begun) {
            return 'd';
        }
        return minute < end ? 'm' : 'e';
    }

    private int rest(int by) {
        z = z * 48271L % 2147483647L;
        return (int) (z % by);
    }

    String swim(int depth, int snags) {
        if (out(depth, 1, 9) || out(snags, 0, 9)) {
            return ARGUMENT;
        }
        if (pegs != null) {
            return UNSUPPORTED;
        }
        if (swims.size() == 10) {
            return STATE;
        }
        swims.add(new int[] {depth, snags, 0, 1, 0});
        return same(swims.size() - 1);
    }

    String open(int swim, boolean is) {
        if (out(swim, 0, swims.size() - 1)) {
            return INDEX;
        }
        if (pegs != null) {
            return UNSUPPORTED;
        }
        return set(swims.get(swim), OPEN, is ? 1 : 0);
    }

    private static String set(int[] row, int at, int value) {
        int before = row[at];
        row[at] = value;
        return same(before);
    }

    String setFlow(int value) {
        if (out(value, 0, 9)) {
            return ARGUMENT;
        }
        int before = flow;
        flow = value;
        return same(before);
    }

    String setWarmth(int value) {
        if (out(value, 0, 30)) {
            return ARGUMENT;
        }
        int before = warmth;
        warmth = value;
        return same(before);
    }

    String seed(int value) {
        if (out(value, 1, 2147483646)) {
            return ARGUMENT;
        }
        long before = z;
        z = value;
        return same(before);
    }

    String stock(int swim, int kind, int length) {
        if (out(swim, 0, swims.size() - 1)) {
            return INDEX;
        }
        if (out(kind, 0, 3) || out(length, 5, 90)) {
            return ARGUMENT;
        }
        if (fish.size() == 60) {
            return STATE;
        }
        fish.add(new int[] {kind, length, (int) (Math.pow(length, 3) / 80), 50, 0, swim, 0});
        states.append('w');
        return same(fish.size() - 1);
    }

    String setLeast(int kind, int length) {
        return out(kind, 0, 3) || out(length, 5, 90) ? ARGUMENT : set(least, kind, length);
    }

    String of(int one, char what) {
        if (out(one, 0, fish.size() - 1)) {
            return INDEX;
        }
        return FISH_NUMBERS.indexOf(what) < 0 ? ARGUMENT : same(number(one, what));
    }

    private int number(int one, char what) {
        return fish.get(one)[FISH_NUMBERS.indexOf(what)];
    }

    private void put(int one, char what, int value) {
        fish.get(one)[FISH_NUMBERS.indexOf(what)] = value;
    }

    private void add(int one, char what, int by) {
        put(one, what, Math.max(0, Math.min(99, number(one, what) + by)));
    }

    String state(int one) {
        return out(one, 0, fish.size() - 1) ? INDEX : same(states.charAt(one));
    }

    private List<Integer> inWater(int swim) {
        List<Integer> there = new ArrayList<>();
        for (int i = 0; i < fish.size(); i++) {
            if (states.charAt(i) == 'w' && number(i, 's') == swim) {
                there.add(i);
            }
        }
        return there;
    }

    /** The one with the most of it, of like ones the lowest, or -1. */
    private int most(List<Integer> some, char what) {
        int best = -1;
        for (int one : some) {
            if (best < 0 || number(one, what) > number(best, what)) {
                best = one;
            }
        }
        return best;
    }

    String fishIn(int swim) {
        return out(swim, 0, swims.size() - 1) ? INDEX : same(inWater(swim).size());
    }

    String eat(int swim) {
        if (out(swim, 0, swims.size() - 1)) {
            return INDEX;
        }
        int prey = most(inWater(swim), 'g');
        if (prey < 0) {
            return NO_SUCH;
        }
        states.setCharAt(prey, 'e');
        return same(prey);
    }

    String angler(int skill) {
        if (out(skill, 1, 9)) {
            return ARGUMENT;
        }
        if (pegs != null) {
            return UNSUPPORTED;
        }
        if (anglers() == 8) {
            return STATE;
        }
        skills.add(skill);
        nets.add(new ArrayList<>());
        slips.add(new ArrayList<>());
        accounts.add(new int[4]);
        return same(anglers() - 1);
    }

    String draw() {
        List<Integer> left = new ArrayList<>();
        for (int i = 0; i < swims.size(); i++) {
            if (swims.get(i)[OPEN] == 1) {
                left.add(i);
            }
        }
        if (pegs != null || anglers() < 2 || left.size() < anglers()) {
            return UNSUPPORTED;
        }
        pegs = new ArrayList<>();
        for (int i = 0; i < anglers(); i++) {
            pegs.add(left.remove(rest(left.size())));
        }
        golden = pegs.get(rest(anglers()));
        pot += 10 * anglers();
        begun = false;
        Arrays.fill(stakes, 0);
        Arrays.fill(weighed, false);
        Arrays.fill(claimed, false);
        return same(golden);
    }

    String pegOf(int one) {
        if (out(one, 0, anglers() - 1)) {
            return INDEX;
        }
        return pegs == null ? NO_SUCH : same(pegs.get(one));
    }

    String stake(int one, int cents) {
        if (out(one, 0, anglers() - 1)) {
            return INDEX;
        }
        if (out(cents, 1, 50)) {
            return ARGUMENT;
        }
        if (phase() != 'd' || stakes[one] > 0) {
            return UNSUPPORTED;
        }
        stakes[one] = cents;
        return same(Arrays.stream(stakes).sum());
    }

    String begin(int minutes) {
        if (out(minutes, 10, 300)) {
            return ARGUMENT;
        }
        if (phase() != 'd') {
            return UNSUPPORTED;
        }
        begun = true;
        end = minute + minutes;
        return same(end);
    }

    String cast(int one, int beside) {
        if (out(one, 0, anglers() - 1)) {
            return INDEX;
        }
        if (out(beside, -1, 1) || pegs != null && out(pegs.get(one) + beside, 0, swims.size() - 1)) {
            return ARGUMENT;
        }
        if (phase() != 'm') {
            return UNSUPPORTED;
        }
        int target = pegs.get(one) + beside;
        lines[one] = -1;
        for (int other = 0; other < anglers(); other++) {
            if (lines[other] == target) {
                crossed++;
                lines[other] = pegs.get(other) == target ? target : -1;
                return "0";
            }
        }
        lines[one] = target;
        return "1";
    }

    String reel(int one) {
        String was = lineOf(one);
        if (!out(one, 0, anglers() - 1)) {
            lines[one] = -1;
        }
        return was;
    }

    String lineOf(int one) {
        if (out(one, 0, anglers() - 1)) {
            return INDEX;
        }
        return lines[one] < 0 ? NO_SUCH : same(lines[one]);
    }

    String feed(int one, int balls) {
        if (out(one, 0, anglers() - 1)) {
            return INDEX;
        }
        if (out(balls, 1, 20)) {
            return ARGUMENT;
        }
        if (phase() != 'm') {
            return UNSUPPORTED;
        }
        int[] own = swims.get(pegs.get(one));
        own[FEED] = Math.min(99, own[FEED] + balls);
        return same(own[FEED]);
    }

    String feedIn(int swim) {
        return out(swim, 0, swims.size() - 1) ? INDEX : same(swims.get(swim)[FEED]);
    }

    String pass(int minutes) {
        if (out(minutes, 1, 120)) {
            return ARGUMENT;
        }
        if (minute + minutes > 9999) {
            return STATE;
        }
        for (int i = 0; i < minutes; i++) {
            onePass();
        }
        return same(minute);
    }

    private void onePass() {
        if (flow >= 5) {
            int[] ahead = new int[swims.size() + 1];
            for (int i = 0; i < swims.size(); i++) {
                ahead[i + 1] = swims.get(i)[FEED];
            }
            for (int i = 0; i < swims.size(); i++) {
                swims.get(i)[FEED] = Math.min(99, ahead[i + 1] - ahead[i + 1] / 2 + ahead[i] / 2);
            }
        }
        for (int i = 0; i < anglers(); i++) {
            if (lines[i] >= 0) {
                try1(i);
            }
        }
        for (int i = 0; i < fish.size(); i++) {
            if (states.charAt(i) == 'w') {
                move(i);
            }
        }
        for (int i = 0; i < swims.size(); i++) {
            List<Integer> there = inWater(i);
            if (!there.isEmpty() && swims.get(i)[FEED] > 0) {
                swims.get(i)[FEED]--;
            }
            for (int one : there) {
                add(one, 'f', -1);
                add(one, 'h', minute % 5 == 0 ? 1 : 0);
            }
        }
        minute++;
        if (minute % 60 == 0) {
            anHour();
        }
        if (phase() != 'm') {
            Arrays.fill(lines, -1);
        }
    }

    private void try1(int one) {
        int swim = lines[one];
        int target = most(inWater(swim), 'h');
        if (target < 0) {
            return;
        }
        int call = 3 * swims.get(swim)[FEED];
        if (call > 30) {
            call = 30;
        }
        if (!(rest(100) < number(target, 'h') + call - (number(target, 'f') + 2 * flow))) {
            return;
        }
        int[] account = accounts.get(one);
        if (!(rest(10) < skills.get(one))) {
            account[2]++;
            add(target, 'f', 5);
            return;
        }
        if (rest(20) < swims.get(swim)[SNAGS]) {
            account[3]++;
            add(target, 'f', 20);
            return;
        }
        account[0]++;
        put(target, 'c', number(target, 'c') + 1);
        add(target, 'h', -30);
        boolean room = nets.get(one).size() + 1 <= 8 && netSum(one) + number(target, 'g') <= 9000;
        if (room && number(target, 'l') >= least[number(target, 'k')]) {
            nets.get(one).add(target);
            states.setCharAt(target, 'n');
            put(target, 's', pegs.get(one));
        } else {
            account[1]++;
            add(target, 'f', 30);
        }
    }

    private void move(int one) {
        int own = number(one, 's');
        if (number(one, 'f') >= 60 && own < swims.size() - 1) {
            put(one, 's', own + 1);
            return;
        }
        if (number(one, 'h') < 40) {
            return;
        }
        int here = swims.get(own)[FEED];
        int up = own > 0 ? swims.get(own - 1)[FEED] : -1;
        int down = own < swims.size() - 1 ? swims.get(own + 1)[FEED] : -1;
        if (up > here && up >= down) {
            put(one, 's', own - 1);
        } else if (down > here) {
            put(one, 's', own + 1);
        }
    }

    private void anHour() {
        for (int i = 0; i < swims.size(); i++) {
            int prey = most(inWater(i), 'g');
            if (swims.get(i)[POACHED] == 1 && prey >= 0) {
                states.setCharAt(prey, 't');
            }
        }
        for (int i = 0; i < swims.size(); i++) {
            int hot = most(inWater(i), 'l');
            if (warmth > 24 && swims.get(i)[DEPTH] <= 2 && hot >= 0 && number(hot, 'l') >= 30) {
                states.setCharAt(hot, 'd');
            }
        }
    }

    private int netSum(int one) {
        int sum = 0;
        for (int some : nets.get(one)) {
            sum += number(some, 'g');
        }
        return sum;
    }

    String account(int one, char what) {
        if (out(one, 0, anglers() - 1)) {
            return INDEX;
        }
        if (what == 'n') {
            return same(nets.get(one).size());
        }
        int at = "lumh".indexOf(what);
        return at < 0 ? ARGUMENT : same(accounts.get(one)[at]);
    }

    String netWeight(int one) {
        return out(one, 0, anglers() - 1) ? INDEX : same(netSum(one));
    }

    String setError(int scale, int grams) {
        return out(scale, 0, 1) || out(grams, -50, 50) ? ARGUMENT : set(errors, scale, grams);
    }

    String weigh(int one, int scale) {
        if (out(one, 0, anglers() - 1)) {
            return INDEX;
        }
        if (out(scale, 0, 1)) {
            return ARGUMENT;
        }
        if (phase() != 'e' || weighed[one]) {
            return UNSUPPORTED;
        }
        trueWeights[one] = netSum(one);
        int grams = nets.get(one).isEmpty() ? 0 : Math.max(0, netSum(one) + errors[scale]);
        for (int some : nets.get(one)) {
            states.setCharAt(some, 'w');
            add(some, 'f', 10);
        }
        nets.get(one).clear();
        weighed[one] = true;
        slips.get(one).add(grams);
        for (int i = 0; i < anglers(); i++) {
            if (!weighed[i]) {
                return same(grams);
            }
        }
        finish();
        return same(grams);
    }

    private int last(int one) {
        List<Integer> all = slips.get(one);
        return all.get(all.size() - 1);
    }

    private void finish() {
        List<Integer> given = new ArrayList<>(pegs);
        given.sort(null);
        int half = given.size() - given.size() / 2;
        List<Integer> upper = given.subList(0, half);
        List<Integer> points = new ArrayList<>();
        for (int i = 0; i < anglers(); i++) {
            int sum = last(i) == 0 ? 0 : 1;
            for (int k = 0; k < anglers(); k++) {
                if (k != i && upper.contains(pegs.get(i)) == upper.contains(pegs.get(k)) && last(k) < last(i)) {
                    sum++;
                }
            }
            points.add(sum);
        }
        int winner = 0;
        int lucky = -1;
        for (int i = 0; i < anglers(); i++) {
            winner = last(i) > last(winner) ? i : winner;
            if (stakes[i] > 0 && (lucky < 0 || last(i) > last(lucky))) {
                lucky = i;
            }
        }
        if (last(winner) > 0 && pegs.get(winner) == golden) {
            won[winner] += pot;
            pot = 0;
        }
        int hat = Arrays.stream(stakes).sum();
        if (lucky >= 0) {
            won[lucky] += hat * 9 / 10;
        }
        fund += hat - hat * 9 / 10;
        pointsOfMatches.add(points);
        told.add(new int[] {winner});
        pegs = null;
    }

    String claim(int one) {
        if (out(one, 0, anglers() - 1)) {
            return INDEX;
        }
        if (phase() != 'e' || !weighed[one] || claimed[one]) {
            return UNSUPPORTED;
        }
        claimed[one] = true;
        slips.get(one).set(slips.get(one).size() - 1, trueWeights[one]);
        return same(trueWeights[one]);
    }

    String slip(int one) {
        if (out(one, 0, anglers() - 1)) {
            return INDEX;
        }
        return slips.get(one).isEmpty() ? NO_SUCH : same(last(one));
    }

    String matches() {
        return same(told.size());
    }

    String points(int match, int one) {
        if (out(one, 0, anglers() - 1)) {
            return INDEX;
        }
        if (out(match, 0, told.size() - 1)) {
            return NO_SUCH;
        }
        List<Integer> points = pointsOfMatches.get(match);
        return same(one < points.size() ? points.get(one) : 0);
    }

    String winner(int match) {
        return out(match, 0, told.size() - 1) ? NO_SUCH : same(told.get(match)[0]);
    }

    private int league(int one) {
        List<Integer> mine = new ArrayList<>();
        for (List<Integer> points : pointsOfMatches) {
            if (one < points.size()) {
                mine.add(points.get(one));
            }
        }
        mine.sort(null);
        int sum = 0;
        for (int i = mine.size() >= 3 ? 1 : 0; i < mine.size(); i++) {
            sum += mine.get(i);
        }
        return sum;
    }

    /** Slips of matches that are over: the league tells of those alone. */
    private int slipSum(int one) {
        int over = slips.get(one).size() - (phase() == 'e' && weighed[one] ? 1 : 0);
        int sum = 0;
        for (int i = 0; i < over; i++) {
            sum += slips.get(one).get(i);
        }
        return sum;
    }

    String total(int one) {
        return out(one, 0, anglers() - 1) ? INDEX : same(league(one));
    }

    String table(int index) {
        if (out(index, 0, anglers() - 1)) {
            return NO_SUCH;
        }
        List<Integer> order = new ArrayList<>();
        for (int i = 0; i < anglers(); i++) {
            order.add(i);
        }
        order.sort((one, other) -> league(one) != league(other) ? league(other) - league(one)
                : slipSum(one) != slipSum(other) ? slipSum(other) - slipSum(one) : one - other);
        return same(order.get(index));
    }

    String pot() {
        return same(pot);
    }

    String won(int one) {
        return out(one, 0, anglers() - 1) ? INDEX : same(won[one]);
    }

    String ticket(int one, boolean is) {
        if (out(one, 0, anglers() - 1)) {
            return INDEX;
        }
        boolean was = tickets[one];
        tickets[one] = is;
        return was ? "1" : "0";
    }

    String poach(int swim) {
        if (out(swim, 0, swims.size() - 1)) {
            return INDEX;
        }
        if (swims.get(swim)[POACHED] == 1) {
            return UNSUPPORTED;
        }
        swims.get(swim)[POACHED] = 1;
        return same(swims.stream().mapToInt(one -> one[POACHED]).sum());
    }

    String round(int swim) {
        if (out(swim, 0, swims.size() - 1)) {
            return INDEX;
        }
        int found = swims.get(swim)[POACHED];
        fund += 50 * found;
        swims.get(swim)[POACHED] = 0;
        for (int i = 0; i < anglers(); i++) {
            if (pegs != null && pegs.get(i) == swim && !tickets[i]) {
                owed[i] += 20;
                found++;
            }
        }
        return same(found);
    }

    String owes(int one) {
        return out(one, 0, anglers() - 1) ? INDEX : same(owed[one]);
    }

    String pay(int one) {
        if (out(one, 0, anglers() - 1)) {
            return INDEX;
        }
        if (owed[one] == 0) {
            return UNSUPPORTED;
        }
        fund += owed[one];
        return set(owed, one, 0);
    }

    String amnesty() {
        int sum = Arrays.stream(owed).sum();
        Arrays.fill(owed, 0);
        return same(sum);
    }

    String fund() {
        return same(fund);
    }

    String minute() {
        return same(minute);
    }

    String crossed() {
        return same(crossed);
    }

    String mass(char what) {
        if ("swnedt".indexOf(what) < 0) {
            return ARGUMENT;
        }
        long sum = 0;
        for (int i = 0; i < fish.size(); i++) {
            sum += what == 's' || states.charAt(i) == what ? number(i, 'g') : 0;
        }
        return same(sum);
    }

    String checksum() {
        List<Long> row = new ArrayList<>();
        for (int i = 0; i < fish.size(); i++) {
            row.add((long) number(i, 's'));
            row.add((long) number(i, 'h'));
            row.add((long) number(i, 'f'));
            row.add((long) states.charAt(i));
        }
        for (int[] swim : swims) {
            row.add((long) swim[FEED]);
        }
        for (int i = 0; i < anglers(); i++) {
            row.add((long) netSum(i));
            row.add((long) won[i]);
        }
        row.addAll(List.of((long) fund, (long) pot, (long) minute, z));
        long sum = 7;
        for (long one : row) {
            sum = sum * 31 + one;
        }
        return same(sum);
    }

    private List<Integer> allInWater() {
        List<Integer> all = new ArrayList<>();
        for (int i = 0; i < swims.size(); i++) {
            all.addAll(inWater(i));
        }
        return all;
    }

    String waterShare() {
        if (fish.isEmpty()) {
            return ARITHMETIC;
        }
        return Float.toString((float) allInWater().size() / (float) fish.size());
    }

    String meanLength() {
        List<Integer> all = allInWater();
        if (all.isEmpty()) {
            return ARITHMETIC;
        }
        int sum = 0;
        for (int one : all) {
            sum += number(one, 'l');
        }
        return Double.toString((double) sum / (double) all.size());
    }
}
