/** Calls picked by a number that goes on by itself, so that the same seed always picks the same ones. */
final class Calls {
    static final String[] DEEDS = {"policy", "allow", "clear", "mount", "create", "renew", "revoke",
        "revokeAlone", "request", "renewCredential", "revokeBelow", "pass"};
    static final String[] QUESTIONS = {"isAlive", "parentOf", "endOf", "usesLeft", "below", "tokens",
        "capabilities", "whyDenied", "works", "endOfCredential", "credentials", "credentialsOf", "time",
        "nextEnd", "entries", "kindOf", "subjectOf", "detailOf", "sumOf"};
    private static final int[] WILD = {0, -1, 9, 10, 19, 91, 29, 101, 1000, 1001, 5000, 5001, 40, 512, 513,
        514, 911111, 119111, 111119, 999999, 1000000, 1234567, Integer.MIN_VALUE, Integer.MAX_VALUE};

    private long seed;
    private final int wildOneIn;
    private final int longest;

    /** Of the arguments one in wildOneIn is a wild one; leases last up to the longest. */
    Calls(long seed, int wildOneIn, int longest) {
        this.seed = seed * 2 + 1;
        this.wildOneIn = wildOneIn;
        this.longest = longest;
    }

    private int below(int bound) {
        seed = seed * 6364136223846793005L + 1442695040888963407L;
        return (int) ((seed >>> 33) % bound);
    }

    private int between(int least, int greatest) {
        return below(wildOneIn) == 0 ? WILD[below(WILD.length)] : least + below(greatest - least + 1);
    }

    private int among(int[] numbers) {
        if (numbers.length == 0 || below(8) == 0) {
            return between(0, 2 * numbers.length + 2);
        }
        return numbers[below(numbers.length)];
    }

    /** A path, or with 9 as the greatest digit a pattern: mostly short, of few folders, so that they meet. */
    private int path(int greatest) {
        if (below(wildOneIn) == 0) {
            return WILD[below(WILD.length)];
        }
        int length = 1 + Math.min(below(6), below(6));
        int path = 0;
        for (int i = 0; i < length; i++) {
            path = path * 10 + (greatest == 9 && below(3) == 0 ? 9 : 1 + below(2));
        }
        return path;
    }

    /** Seldom one with DENY, which hides what the others have. */
    private int ruleSet() {
        return below(4) == 0 ? between(0, 15) : between(0, 7);
    }

    private int policies(boolean many) {
        return many ? between(0, 15) & between(0, 15) | between(0, 7) : between(0, 15) & below(16);
    }

    private int minutes() {
        return between(1, longest);
    }

    /** Where leases are long, little is revoked, so that there come to be as many as there may be. */
    String call() {
        String call = anyCall();
        boolean ends = call.startsWith("revoke") || call.equals("pass");
        return ends && longest > 500 && below(4) > 0 ? anyCall() : call;
    }

    private String anyCall() {
        int roll = below(100);
        if (roll < 24) {
            return "request";
        }
        if (roll < 38) {
            return "create";
        }
        if (roll < 46) {
            return "allow";
        }
        return roll < 67 ? DEEDS[below(DEEDS.length)] : question();
    }

    String question() {
        return QUESTIONS[below(QUESTIONS.length)];
    }

    /** Of tokens and credentials, mostly one of those named is taken, so that the deeds meet what is alive. */
    int[] arguments(String call, int[] tokens, int[] credentials, int entries) {
        int token = among(tokens);
        switch (call) {
            case "policy": case "tokens": case "credentials": case "time": case "nextEnd": case "entries":
                return new int[0];
            case "allow":
                return new int[] {between(0, 3), path(9), below(2), ruleSet()};
            case "clear":
                return new int[] {between(0, 30)};
            case "mount":
                int bound = minutes();
                return new int[] {path(8), between(1, bound > 0 && bound < 999 ? bound : 3), bound};
            case "create":
                return create(token);
            case "renew":
                return new int[] {token, minutes()};
            case "renewCredential":
                return new int[] {among(credentials), minutes()};
            case "request": case "capabilities": case "whyDenied":
                return new int[] {token, path(8)};
            case "revokeBelow":
                return new int[] {path(8) * (below(3) == 0 ? 1 : 10) + 1};
            case "works": case "endOfCredential":
                return new int[] {among(credentials)};
            case "pass":
                return new int[] {between(1, Math.max(1, longest > 500 ? longest / 50 : longest / 4))};
            case "kindOf": case "subjectOf": case "detailOf": case "sumOf":
                return new int[] {between(0, entries)};
            default:
                return new int[] {token};
        }
    }

    private int[] create(int parent) {
        int minutes = minutes();
        int most = minutes > 0 && minutes < 1001 ? minutes * 3 : 5;
        return new int[] {parent, policies(parent == 0), minutes,
            between(minutes < most ? minutes : 1, most), below(3) == 0 ? between(0, 9) : between(0, 0)};
    }
}
