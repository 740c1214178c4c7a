/** A sequence of numbers that is the same on every run. */
final class Numbers {
    private long state;

    Numbers(long seed) {
        state = seed * 0x9E3779B97F4A7C15L + 1;
    }

    int below(int bound) {
        state = state * 6364136223846793005L + 1442695040888963407L;
        return (int) ((state >>> 33) % bound);
    }

    boolean oneIn(int n) {
        return below(n) == 0;
    }

    int from(int... choices) {
        return choices[below(choices.length)];
    }

    /** Most times an index below the count, else one beside it or far off. */
    int index(int count) {
        if (count > 0 && !oneIn(25)) {
            return below(count);
        }
        return from(-1, count, count + 1, Integer.MIN_VALUE, Integer.MAX_VALUE, -count);
    }

    /** Most times a number from least to most, often one at an edge, else one beside them or far off. */
    int within(int least, int most) {
        if (oneIn(25)) {
            return from(least - 1, most + 1, Integer.MIN_VALUE, Integer.MAX_VALUE);
        }
        return oneIn(6) ? from(least, most) : least + below(most - least + 1);
    }

    /** Most times a set of things below the count, else one with others, too. */
    int set(int count) {
        if (oneIn(25)) {
            return from(-1, 1 << count, (1 << count) - 1, Integer.MIN_VALUE, Integer.MAX_VALUE, 1 << 30);
        }
        return below(1 << count) & (oneIn(2) ? below(1 << count) : -1);
    }
}
