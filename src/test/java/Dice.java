/** Numbers that look thrown, but are the same ones for the same start. */
final class Dice {
    private long seed;

    Dice(long seed) {
        this.seed = seed;
    }

    /** A number from 0 to the most. */
    int upTo(int most) {
        seed = seed * 6364136223846793005L + 1442695040888963407L;
        return (int) ((seed >>> 33) % (most + 1));
    }

    int from(int least, int most) {
        return least + upTo(most - least);
    }

    /** Mostly in the range, at times at its ends or just outside. */
    int around(int least, int most) {
        switch (upTo(19)) {
            case 0:
                return least - 1;
            case 1:
                return most + 1;
            case 2:
                return least;
            case 3:
                return most;
            default:
                return from(least, most);
        }
    }
}
