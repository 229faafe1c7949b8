/** Numbers that look like chance, and are the same in every run of a test. */
final class Numbers {
    private static final int[] ODD = {
        -1, 24, 4, 23, 0, 3, 32, -24, 1000, Integer.MAX_VALUE, Integer.MIN_VALUE
    };
    private long seed;

    Numbers(long start) {
        seed = start * 7919L + 17;
    }

    int below(int bound) {
        seed = seed * 6364136223846793005L + 1442695040888963407L;
        return (int) ((seed >>> 33) % bound);
    }

    int odd() {
        return ODD[below(ODD.length)];
    }
}
