/** The same row of numbers for the same seed: tests ask no clock and no random source. */
final class Numbers {
    private long state;

    Numbers(long seed) {
        state = seed * 6364136223846793005L + 1442695040888963407L;
    }

    /** A number from 0 on, below another. */
    int below(int bound) {
        state = state * 6364136223846793005L + 1442695040888963407L;
        return (int) ((state >>> 33) % bound);
    }

    boolean oneIn(int many) {
        return below(many) == 0;
    }
}
