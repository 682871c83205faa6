/** Looks for seeds whose draws are those that a test wants. */
final class Seeds {
    private static final long MODULUS = 2147483647L;

    private Seeds() {
    }

    static long next(long z) {
        return z * 48271 % MODULUS;
    }

    /** The lowest seed whose draws leave these rests: divisor, rest, divisor, rest and so on. */
    static int withRests(int... divisorsAndRests) {
        for (int seed = 1; seed < 5_000_000; seed++) {
            if (gives(seed, divisorsAndRests)) {
                return seed;
            }
        }
        throw new IllegalStateException("no such seed");
    }

    private static boolean gives(int seed, int[] divisorsAndRests) {
        long z = seed;
        for (int i = 0; i < divisorsAndRests.length; i += 2) {
            z = next(z);
            if (z % divisorsAndRests[i] != divisorsAndRests[i + 1]) {
                return false;
            }
        }
        return true;
    }

    /** A seed by which anglers get these of so many open pegs, all swims from 0 on, and one of them the golden one. */
    static int forPegs(int openPegs, int[] pegs, int goldenAngler) {
        int[] row = new int[2 * pegs.length + 2];
        for (int i = 0; i < pegs.length; i++) {
            int rest = pegs[i];
            for (int k = 0; k < i; k++) {
                if (pegs[k] < pegs[i]) {
                    rest--;
                }
            }
            row[2 * i] = openPegs - i;
            row[2 * i + 1] = rest;
        }
        row[2 * pegs.length] = pegs.length;
        row[2 * pegs.length + 1] = goldenAngler;
        return withRests(row);
    }
}
