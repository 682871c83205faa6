/** Promises 47 to 51: sums over the bank. */
public final class SumsTest {
    private static final Class<IllegalArgumentException> ARGUMENT = IllegalArgumentException.class;
    private static final Class<ArithmeticException> ARITHMETIC = ArithmeticException.class;

    public static void main(String[] args) {
        mass();
        checksum();
        waterShare();
        meanLength();
        isSound();
        Check.end();
    }

    private static void mass() {
        Pegdraw x = Scene.oneOfEach();
        Check.due("in nets", x.mass('n'), 337);
        Check.due("in the water", x.mass('w'), 372);
        Check.due("eaten", x.mass('e'), 409);
        Check.due("dead", x.mass('d'), 449);
        Check.due("taken", x.mass('t'), 491);
        Check.due("stocked", x.mass('s'), 337 + 372 + 409 + 449 + 491);
        char[] wrong = {'x', 'W', 0, 'S', 65535};
        for (char one : wrong) {
            Check.refused("mass of " + (int) one, x, ARGUMENT, () -> x.mass(one));
        }
        Pegdraw y = Scene.bank(1, 0);
        for (int i = 0; i < 60; i++) {
            y.stock(0, 0, 90);
        }
        Check.due("of sixty", y.mass('s'), 60L * 9112);
    }

    private static void checksum() {
        Pegdraw x = Scene.oneOfEach();
        x.feed(1, 3);
        long sum = 7;
        int[] hungers = {20, x.of(1, 'h'), x.of(2, 'h'), x.of(3, 'h'), x.of(4, 'h')};
        int[] swims = {0, 2, 2, 1, 0};
        char[] states = {'n', 'w', 'e', 'd', 't'};
        for (int i = 0; i < 5; i++) {
            sum = ((((sum * 31 + swims[i]) * 31 + hungers[i]) * 31) + x.of(i, 'f')) * 31 + states[i];
        }
        sum = ((sum * 31) * 31 + 3) * 31;
        sum = (sum * 31 + 337) * 31;
        sum = (sum * 31) * 31;
        int z = Scene.z(x);
        sum = (((sum * 31) * 31 + 20) * 31 + 60) * 31 + z;
        Check.due("checksum", x.checksum(), sum);
        Pegdraw y = Scene.bank(2, 0, 9, 9);
        Scene.draw(y, 2, new int[] {0, 1}, 0);
        y.stake(1, 50);
        y.poach(1);
        y.round(1);
        Scene.fish(y, 0, 30);
        Scene.weighAll(y, 2);
        y.eat(1);
        int last = y.seed(77);
        Check.isTrue("z was another", last != 77);
        long due = 7 * 31 + 1;
        due = ((due * 31 + y.of(0, 'h')) * 31 + 10) * 31 + 'e';
        due = due * 31 * 31;
        due = due * 31 * 31;
        due = (due * 31) * 31 + 45;
        due = (((due * 31 + 55) * 31 + 20) * 31 + 10) * 31 + 77;
        Check.due("checksum with what was won", y.checksum(), due);
    }

    private static void waterShare() {
        Pegdraw x = Scene.bank(1, 0);
        Check.refused("share of none", x, ARITHMETIC, () -> (long) x.waterShare());
        x.stock(0, 0, 30);
        x.stock(0, 0, 31);
        x.stock(0, 0, 32);
        Check.due("share of all", x.waterShare(), 1.0f);
        x.eat(0);
        Check.due("share of two in three", x.waterShare(), 2.0f / 3.0f);
        x.eat(0);
        x.eat(0);
        Check.due("none in the water", x.waterShare(), 0.0f);
        Check.due("one in five", Scene.oneOfEach().waterShare(), 1.0f / 5.0f);
    }

    private static void meanLength() {
        Pegdraw x = Scene.bank(2, 0);
        Check.refused("mean of none", x, ARITHMETIC, () -> (long) x.meanLength());
        x.stock(0, 0, 30);
        x.stock(1, 0, 31);
        x.stock(0, 0, 33);
        Check.due("mean", x.meanLength(), 94.0 / 3.0);
        x.eat(0);
        Check.due("mean of those in the water", x.meanLength(), 61.0 / 2.0);
        x.eat(0);
        x.eat(1);
        Check.refused("mean of none in the water", x, ARITHMETIC, () -> (long) x.meanLength());
    }

    private static void isSound() {
        Pegdraw x = Scene.oneOfEach();
        Check.due("sound", x.isSound(), true);
        Scene.end(x);
        Check.due("sound before the scales", x.isSound(), true);
        Scene.weighAll(x, 2);
        Check.due("sound behind the match", x.isSound(), true);
    }
}
