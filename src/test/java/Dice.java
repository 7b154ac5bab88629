/** Numbers that look thrown but are the same in every run. */
final class Dice {
    private long state;

    Dice(long seed) {
        state = seed;
    }

    int below(int bound) {
        state = state * 6364136223846793005L + 1442695040888963407L;
        return (int) ((state >>> 33) % bound);
    }

    /** Mostly 0 .. bound - 1, now and then just outside or far off. */
    int about(int bound) {
        switch (below(24)) {
            case 0:
                return -1;
            case 1:
                return bound;
            case 2:
                return below(2) == 0 ? Integer.MIN_VALUE : Integer.MAX_VALUE;
            default:
                return bound > 0 ? below(bound) : below(2);
        }
    }
}
