/** Calls picked by a number that goes on by itself, so that the same seed always picks the same ones. */
final class Calls {
    private static final int[] WILD = {0, -1, 9, 10, 19, 91, 29, 101, 1000, 1001, 5000, 5001, 40, 512, 513,
        514, 999999, 1000000, 1234567, Integer.MIN_VALUE, Integer.MAX_VALUE};
    static final int KINDS = 31;

    private long seed;
    private final int wildOneIn;
    private final int slowness;

    /** Of the arguments one in wildOneIn is a wild one; minutes pass in steps of up to slowness. */
    Calls(long seed, int wildOneIn, int slowness) {
        this.seed = seed * 2 + 1;
        this.wildOneIn = wildOneIn;
        this.slowness = slowness;
    }

    int below(int bound) {
        seed = seed * 6364136223846793005L + 1442695040888963407L;
        return (int) ((seed >>> 33) % bound);
    }

    int between(int least, int greatest) {
        if (below(wildOneIn) == 0) {
            return WILD[below(WILD.length)];
        }
        return least + below(greatest - least + 1);
    }

    /** A path, or with 9 as the greatest digit a pattern: mostly short, of few folders, so that they meet. */
    int path(int greatest) {
        if (below(wildOneIn) == 0) {
            return WILD[below(WILD.length)];
        }
        int length = 1 + Math.min(below(6), below(6));
        int path = 0;
        for (int i = 0; i < length; i++) {
            path = path * 10 + (greatest == 9 && below(3) == 0 ? 9 : 1 + below(2));
        }
        return path;
    }

    int kind() {
        int roll = below(100);
        if (roll < 24) {
            return 15;
        }
        if (roll < 38) {
            return 5;
        }
        return roll < 46 ? 1 : below(KINDS);
    }

    int minutes() {
        return between(1, slowness);
    }
}
