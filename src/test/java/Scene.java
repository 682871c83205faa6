/** Banks that tests begin with. */
final class Scene {
    private Scene() {
    }

    /** Swims of a depth of 5. */
    static Pegdraw bank(int swims, int snags, int... skills) {
        Pegdraw bank = new Pegdraw();
        for (int i = 0; i < swims; i++) {
            bank.swim(5, snags);
        }
        for (int skill : skills) {
            bank.angler(skill);
        }
        return bank;
    }

    static void draw(Pegdraw bank, int openPegs, int[] pegs, int goldenAngler) {
        bank.seed(Seeds.forPegs(openPegs, pegs, goldenAngler));
        Check.due("the golden peg", bank.draw(), pegs[goldenAngler]);
        for (int i = 0; i < pegs.length; i++) {
            Check.due("the peg of " + i, bank.pegOf(i), pegs[i]);
        }
    }

    /** Three swims, two anglers of the skill at swims 0 and 1, the golden peg at 0, and a match of 300 minutes. */
    static Pegdraw match(int snags, int skill) {
        Pegdraw bank = bank(3, snags, skill, skill);
        draw(bank, 3, new int[] {0, 1}, 0);
        bank.begin(300);
        return bank;
    }

    /** The next minute's one line, if a fish is there, has a bite and lands it. */
    static void lucky(Pegdraw bank) {
        bank.seed(Seeds.withRests(100, 0, 10, 0, 20, 19));
    }

    static void land(Pegdraw bank, int angler) {
        int before = bank.account(angler, 'l');
        lucky(bank);
        bank.pass(1);
        Check.due("landed by " + angler, bank.account(angler, 'l'), before + 1);
    }

    /** Ends a match that goes on, or has not begun yet. */
    static void end(Pegdraw bank) {
        if (bank.phase() == 'd') {
            bank.begin(10);
        }
        for (int i = 0; i < 300 && bank.phase() == 'm'; i++) {
            bank.pass(1);
        }
        Check.due("phase behind the match", bank.phase(), 'e');
    }

    /** Weighs all nets with scale 0. */
    static void weighAll(Pegdraw bank, int anglers) {
        for (int i = 0; i < anglers; i++) {
            bank.weigh(i, 0);
        }
        Check.due("phase behind the scales", bank.phase(), 'n');
    }

    /** Fishes a match that has been drawn to its end: each angler lands one fish of the length, or none for 0. */
    static void fish(Pegdraw bank, int... lengths) {
        bank.begin(10);
        for (int i = 0; i < lengths.length; i++) {
            if (lengths[i] > 0) {
                bank.stock(bank.pegOf(i), 0, lengths[i]);
                bank.cast(i, 0);
                land(bank, i);
                bank.reel(i);
            }
        }
        end(bank);
    }
}
