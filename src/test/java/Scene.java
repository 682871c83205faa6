/** Banks that tests begin with. */
final class Scene {
    private Scene() {
    }

    /** Swims of a depth of 5. */
    static Pegdraw bank(int swims, int snags, int... skills) {
        Pegdraw bank = new Pegdraw();
        for (int i = 0; i < swims; i++) {
            bank.swim(5, snags);
        }
        for (int skill : skills) {
            bank.angler(skill);
        }
        return bank;
    }

    static void draw(Pegdraw bank, int openPegs, int[] pegs, int goldenAngler) {
        bank.seed(Seeds.forPegs(openPegs, pegs, goldenAngler));
        Check.due("the golden peg", bank.draw(), pegs[goldenAngler]);
        for (int i = 0; i < pegs.length; i++) {
            Check.due("the peg of " + i, bank.pegOf(i), pegs[i]);
        }
    }

    /** Three swims, two anglers of the skill at swims 0 and 1, the golden peg at 0, and a match of 300 minutes. */
    static Pegdraw match(int snags, int skill) {
        Pegdraw bank = bank(3, snags, skill, skill);
        draw(bank, 3, new int[] {0, 1}, 0);
        bank.begin(300);
        return bank;
    }

    /** The next minute's one line, if a fish is there, has a bite and lands it. */
    static void lucky(Pegdraw bank) {
        bank.seed(Seeds.withRests(100, 0, 10, 0, 20, 19));
    }

    static void land(Pegdraw bank, int angler) {
        int before = bank.account(angler, 'l');
        lucky(bank);
        bank.pass(1);
        Check.due("landed by " + angler, bank.account(angler, 'l'), before + 1);
    }

    /** Ends a match that goes on, or has not begun yet. */
    static void end(Pegdraw bank) {
        if (bank.phase() == 'd') {
            bank.begin(10);
        }
        for (int i = 0; i < 300 && bank.phase() == 'm'; i++) {
            bank.pass(1);
        }
        Check.due("phase behind the match", bank.phase(), 'e');
    }

    /** Weighs all nets with scale 0. */
    static void weighAll(Pegdraw bank, int anglers) {
        for (int i = 0; i < anglers; i++) {
            bank.weigh(i, 0);
        }
        Check.due("phase behind the scales", bank.phase(), 'n');
    }

    /** Fishes a match that has been drawn to its end: each angler lands one fish of the length, or none for 0. */
    static void fish(Pegdraw bank, int... lengths) {
        bank.begin(10);
        for (int i = 0; i < lengths.length; i++) {
            if (lengths[i] > 0) {
                bank.stock(bank.pegOf(i), 0, lengths[i]);
                bank.cast(i, 0);
                land(bank, i);
                bank.reel(i);
            }
        }
        end(bank);
    }

    /** The next minute's one line has a bite and misses it. */
    static void miss(Pegdraw bank, int angler) {
        int before = bank.account(angler, 'm');
        bank.seed(Seeds.withRests(100, 0, 10, 9));
        bank.pass(1);
        Check.due("missed by " + angler, bank.account(angler, 'm'), before + 1);
    }

    /** The next minute's one line, in a swim with snags, hooks a fish and loses it. */
    static void lose(Pegdraw bank, int angler) {
        int before = bank.account(angler, 'h');
        bank.seed(Seeds.withRests(100, 0, 10, 0, 20, 0));
        bank.pass(1);
        Check.due("lost by " + angler, bank.account(angler, 'h'), before + 1);
    }

    /** Lets minutes go by without the own line, so that fish calm down, and casts it again. */
    static void rest(Pegdraw bank, int angler, int minutes) {
        int beside = bank.reel(angler) - bank.pegOf(angler);
        bank.pass(minutes);
        bank.cast(angler, beside);
    }

    /** Feeds the own swim of an angler till so much is in it. */
    static void feedTo(Pegdraw bank, int angler, int feed) {
        int own = bank.pegOf(angler);
        while (bank.feedIn(own) < feed) {
            bank.feed(angler, Math.min(20, feed - bank.feedIn(own)));
        }
    }

    /**
     * Two swims with snags of 9 and anglers of a skill of 9 at both, no flow, and the line of angler 1 in the lower
     * one with one fish, which has a hunger of 99 and a fright of up to 95, and nowhere to flee to.
     */
    static Pegdraw frightened(int fright) {
        Pegdraw x = bank(2, 9, 9, 9);
        draw(x, 2, new int[] {0, 1}, 0);
        x.stock(1, 0, 30);
        passTo(x, 241);
        x.setFlow(0);
        x.begin(300);
        feedTo(x, 1, 20);
        x.cast(1, 0);
        for (int i = 0; i < 5; i++) {
            lose(x, 1);
        }
        if (fright < 95) {
            rest(x, 1, 95 - fright);
        }
        Check.due("fright", x.of(0, 'f'), fright);
        Check.due("hunger", x.of(0, 'h'), 99);
        return x;
    }

    static void passTo(Pegdraw bank, int minute) {
        while (bank.minute() < minute) {
            bank.pass(Math.min(120, minute - bank.minute()));
        }
        Check.due("minute", bank.minute(), minute);
    }

    static int z(Pegdraw bank) {
        int z = bank.seed(1);
        bank.seed(z);
        return z;
    }

    /** One fish each in a net, in the water, eaten, dead and taken; lengths 30 to 34; minute 60 of a match. */
    static Pegdraw oneOfEach() {
        Pegdraw x = new Pegdraw();
        x.swim(5, 0);
        x.swim(1, 0);
        x.swim(5, 0);
        x.angler(9);
        x.angler(9);
        draw(x, 3, new int[] {0, 1}, 0);
        x.begin(300);
        x.stock(0, 0, 30);
        x.cast(0, 0);
        land(x, 0);
        x.reel(0);
        x.stock(2, 1, 31);
        x.stock(2, 2, 32);
        x.stock(1, 3, 33);
        x.stock(0, 0, 34);
        x.eat(2);
        x.poach(0);
        x.setWarmth(30);
        x.pass(59);
        return x;
    }
}
