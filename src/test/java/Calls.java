/** Calls picked by a number that goes on by itself, so that the same seed always picks the same ones. */
final class Calls {
    private static final int[] WILD = {0, -1, 9, 10, 19, 91, 29, 101, 1000, 1001, 5000, 5001, 40, 512, 513,
        514, 911111, 119111, 111119, 999999, 1000000, 1234567, Integer.MIN_VALUE, Integer.MAX_VALUE};
    static final int KINDS = 31;

    private long seed;
    private final int wildOneIn;
    private final int longest;

    /** Of the arguments one in wildOneIn is a wild one; leases last up to the longest. */
    Calls(long seed, int wildOneIn, int longest) {
        this.seed = seed * 2 + 1;
        this.wildOneIn = wildOneIn;
        this.longest = longest;
    }

    int below(int bound) {
        seed = seed * 6364136223846793005L + 1442695040888963407L;
        return (int) ((seed >>> 33) % bound);
    }

    private int wild() {
        return WILD[below(WILD.length)];
    }

    int between(int least, int greatest) {
        return below(wildOneIn) == 0 ? wild() : least + below(greatest - least + 1);
    }

    int among(int[] numbers) {
        if (numbers.length == 0 || below(8) == 0) {
            return between(0, 2 * numbers.length + 2);
        }
        return numbers[below(numbers.length)];
    }

    /** A path, or with 9 as the greatest digit a pattern: mostly short, of few folders, so that they meet. */
    int path(int greatest) {
        if (below(wildOneIn) == 0) {
            return wild();
        }
        int length = 1 + Math.min(below(6), below(6));
        int path = 0;
        for (int i = 0; i < length; i++) {
            path = path * 10 + (greatest == 9 && below(3) == 0 ? 9 : 1 + below(2));
        }
        return path;
    }

    /** Seldom one with DENY, which hides what the others have. */
    int ruleSet() {
        return below(4) == 0 ? between(0, 15) : between(0, 7);
    }

    int policies(boolean many) {
        return many ? between(0, 15) & between(0, 15) | between(0, 7) : between(0, 15) & below(16);
    }

    /** Where leases are long, little is revoked, so that there come to be as many as there may be. */
    int kind() {
        int kind = anyKind();
        boolean ends = kind == 7 || kind == 8 || kind == 19 || kind == 24;
        return ends && longest > 500 && below(4) > 0 ? anyKind() : kind;
    }

    private int anyKind() {
        int roll = below(100);
        if (roll < 24) {
            return 15;
        }
        if (roll < 38) {
            return 5;
        }
        return roll < 46 ? 1 : below(KINDS);
    }

    int minutes() {
        return between(1, longest);
    }

    int steps() {
        return between(1, Math.max(1, longest > 500 ? longest / 50 : longest / 4));
    }
}
