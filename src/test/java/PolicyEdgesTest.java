/** Promises 1 to 5 and 16, each sentence at its edges. */
public final class PolicyEdgesTest {
    private static final Checks CHECKS = new Checks();
    private static final String BAD_NUMBER = Checks.BAD_NUMBER, BAD_ARGUMENT = Checks.BAD_ARGUMENT;
    private static final String BAD_STATE = Checks.BAD_STATE;
    private static final int LEAST = Integer.MIN_VALUE, MOST = Integer.MAX_VALUE;
    private static final int READ = SecretBroker.READ, WRITE = SecretBroker.WRITE, LIST = SecretBroker.LIST;

    public static void main(String[] args) {
        aNewObjectHasTheRootAlone();
        objectsAreOnTheirOwn();
        eightPoliciesAndNoNinth();
        aPolicyIsMadeWithoutRules();
        allowNeedsAPolicyThatThereIs();
        allowNeedsAPattern();
        allowNeedsASetFrom0To15();
        sixRulesAndNoSeventh();
        theSameRuleIsGivenOtherCapabilities();
        clearTakesAllRules();
        clearNeedsAPolicyThatThereIs();
        mountNeedsAPath();
        mountNeeds1To1000Minutes();
        mountNeedsABoundFromMinutesTo5000();
        sixMountsAndNoSeventh();
        theSameMountIsGivenOtherMinutes();
        theLongestMountCounts();
        theRootHasAllCapabilities();
        capabilitiesAliveOrNot();
        capabilitiesNeedATokenThatThereWas();
        capabilitiesNeedAPath();
        CHECKS.end("PolicyEdgesTest");
    }

    /** Promise 1: 'Makes a broker with the root token, without policies and mounts; the time is 0.' */
    private static void aNewObjectHasTheRootAlone() {
        String[] calls = {"time", "tokens", "credentials", "entries", "nextEnd", "policy"};
        Object[] due = {0, 1, 0, 0, -1, 0};
        for (int i = 0; i < calls.length; i++) {
            CHECKS.answered(Pasts::nothing, due[i], calls[i]);
        }
        String[] ofTheRoot = {"isAlive", "parentOf", "endOf", "usesLeft", "below", "credentialsOf"};
        Object[] dueOfTheRoot = {true, -1, -1, -1, 0, 0};
        for (int i = 0; i < ofTheRoot.length; i++) {
            CHECKS.answered(Pasts::nothing, dueOfTheRoot[i], ofTheRoot[i], 0);
        }
        CHECKS.answered(Pasts::nothing, 7, "capabilities", 0, 1);
        CHECKS.answered(Pasts::nothing, 1, "create", 0, 0, 1, 1, 0);
        CHECKS.answered(Pasts::nothing, BAD_ARGUMENT, "create", 0, 1, 1, 1, 0);
        CHECKS.answered(Pasts::nothing, SecretBroker.NONE, "request", 0, 1);
        CHECKS.answered(Pasts::nothing, 1, "mount", 1, 1, 1);
        CHECKS.answered(Pasts::nothing, 0, "revokeBelow", 1);
        CHECKS.answered(Pasts::nothing, 0, "pass", 1000);
        for (int path = 1; path <= 8; path++) {
            CHECKS.answered(Pasts::nothing, SecretBroker.UNMOUNTED, "whyDenied", 0, path);
        }
    }

    /** Promise 1: 'A new object', whatever others have lived through, ahead of it or beside it. */
    private static void objectsAreOnTheirOwn() {
        for (int probe = 0; probe < Probes.COUNT; probe++) {
            Broker early = new Broker();
            Broker lived = Checks.after(Pasts::lived);
            Checks.after(Pasts::full);
            Broker late = new Broker();
            String due = Probes.shown(probe, new Broker());
            CHECKS.due("made ahead of others", Probes.shown(probe, early), due);
            CHECKS.due("made behind others", Probes.shown(probe, late), due);
            CHECKS.due("lived beside others", Probes.shown(probe, lived),
                    Probes.shown(probe, Checks.after(Pasts::lived)));
        }
    }

    /** Promise 2: 'Returns its number.' 'Throws IllegalStateException if there are 8 policies'. */
    private static void eightPoliciesAndNoNinth() {
        Broker broker = new Broker();
        for (int policy = 0; policy < 8; policy++) {
            CHECKS.due("policy " + policy, broker.ask("policy"), policy);
        }
        CHECKS.due("a ninth", broker.ask("policy"), BAD_STATE);
        CHECKS.due("a ninth still", broker.ask("policy"), BAD_STATE);
        broker.clear(7);
        CHECKS.due("a ninth behind clear", broker.ask("policy"), BAD_STATE);
        CHECKS.refused(Pasts::full, BAD_STATE, "policy");
    }

    /** Promise 2: 'Makes a policy without rules.' */
    private static void aPolicyIsMadeWithoutRules() {
        Broker broker = new Broker();
        for (int policy = 0; policy < 8; policy++) {
            broker.policy();
            CHECKS.due("rules of " + policy, broker.ask("clear", policy), 0);
            CHECKS.due("its first", broker.ask("allow", policy, 1, 1, 7), 1);
        }
    }

    /** Promise 3: 'Throws IndexOutOfBoundsException if there is no such policy'. */
    private static void allowNeedsAPolicyThatThereIs() {
        CHECKS.refused(Pasts::nothing, BAD_NUMBER, "allow", 0, 1, 1, 1);
        for (int policy : new int[] {-1, 3, 7, 8, LEAST, MOST}) {
            CHECKS.refused(Pasts::lived, BAD_NUMBER, "allow", policy, 1, 1, 1);
        }
        for (int policy : new int[] {-1, 8, LEAST, MOST}) {
            CHECKS.refused(Pasts::full, BAD_NUMBER, "allow", policy, 1, 1, 1);
        }
        CHECKS.answered(Pasts::lived, 3, "allow", 0, 5, 1, 1);
        CHECKS.answered(Pasts::lived, 2, "allow", 2, 5, 1, 1);
        CHECKS.answered(Pasts::full, 1, "allow", 1, 5, 1, 1);
        CHECKS.answered(Pasts::full, 1, "allow", 6, 5, 1, 1);
    }

    /** Promise 3: 'Throws IllegalArgumentException if pattern is none'; PathEdgesTest has all the numbers. */
    private static void allowNeedsAPattern() {
        for (int pattern : new int[] {0, -1, 10, 109, 901, 1000000, 1111111, 9999999, -12, LEAST, MOST}) {
            CHECKS.refused(Pasts::lived, BAD_ARGUMENT, "allow", 0, pattern, 1, 1);
        }
        for (int pattern : new int[] {1, 9, 11, 99, 111111, 999999}) {
            CHECKS.answered(Pasts::lived, 3, "allow", 0, pattern, 0, 1);
        }
    }

    /** Promise 3: 'capabilities: a set, 0 to 15', 'IllegalArgumentException if ... out of its range'. */
    private static void allowNeedsASetFrom0To15() {
        for (int set : new int[] {-1, 16, LEAST, MOST}) {
            CHECKS.refused(Pasts::lived, BAD_ARGUMENT, "allow", 0, 2, 1, set);
            CHECKS.refused(Pasts::lived, BAD_ARGUMENT, "allow", 0, 1, 1, set);
        }
        for (int set = 0; set <= 15; set++) {
            CHECKS.answered(Pasts::lived, 3, "allow", 0, 2, 1, set);
        }
    }

    /** Promise 3: 'Returns how many rules the policy has then', 'if it would be the seventh rule'. */
    private static void sixRulesAndNoSeventh() {
        Broker broker = new Broker();
        for (int policy = 0; policy < 8; policy++) {
            broker.policy();
        }
        for (int rule = 1; rule <= 6; rule++) {
            for (int policy = 0; policy < 8; policy++) {
                CHECKS.due("rule " + rule + " of " + policy, broker.ask("allow", policy, rule, 1, READ), rule);
            }
        }
        for (int policy = 0; policy < 8; policy++) {
            CHECKS.due("a seventh of " + policy, broker.ask("allow", policy, 7, 1, READ), BAD_STATE);
            CHECKS.due("one open otherwise", broker.ask("allow", policy, 6, 0, READ), BAD_STATE);
        }
        broker.create(0, 1, 1, 1, 0);
        for (int path = 1; path <= 8; path++) {
            CHECKS.due("the six hold at " + path, broker.capabilities(1, path), path <= 6 ? READ : 0);
        }
        CHECKS.due("all six go", broker.ask("clear", 0), 6);
        CHECKS.due("room again", broker.ask("allow", 0, 7, 1, READ), 1);
        CHECKS.due("not elsewhere", broker.ask("allow", 1, 7, 1, READ), BAD_STATE);
        CHECKS.refused(Pasts::full, BAD_STATE, "allow", 0, 7, 1, 1);
        CHECKS.refused(Pasts::full, BAD_STATE, "allow", 0, 9, 0, 1);
        CHECKS.refused(Pasts::full, BAD_STATE, "allow", 7, 91, 1, 1);
    }

    /** Promise 3: 'or gives the rule with the same pattern that is open likewise other capabilities', the
     * first and the last of six as well, and of one policy alone. */
    private static void theSameRuleIsGivenOtherCapabilities() {
        for (int anew = 1; anew <= 6; anew++) {
            Broker broker = new Broker();
            broker.policy();
            broker.policy();
            for (int rule = 1; rule <= 6; rule++) {
                broker.allow(0, rule, true, READ);
                broker.allow(1, rule, true, READ);
            }
            broker.create(0, 1, 1, 1, 0);
            broker.create(0, 2, 1, 1, 0);
            CHECKS.due("rule " + anew + " anew", broker.ask("allow", 0, anew, 1, WRITE), 6);
            for (int path = 1; path <= 6; path++) {
                CHECKS.due("at " + path, broker.capabilities(1, path), path == anew ? WRITE : READ);
                CHECKS.due("at " + path + " of the other", broker.capabilities(2, path), READ);
            }
        }
        Broker broker = new Broker();
        broker.policy();
        broker.create(0, 1, 1, 1, 0);
        CHECKS.due("open", broker.ask("allow", 0, 1, 1, READ), 1);
        CHECKS.due("closed", broker.ask("allow", 0, 1, 0, WRITE), 2);
        CHECKS.due("open anew", broker.ask("allow", 0, 1, 1, LIST), 2);
        CHECKS.due("closed at its path", broker.capabilities(1, 1), WRITE);
        CHECKS.due("open below", broker.capabilities(1, 11), LIST);
        CHECKS.due("a pattern that covers it is another", broker.ask("allow", 0, 9, 1, READ), 3);
    }

    /** Promise 4: 'Takes all rules of a policy away.' 'Returns how many there were.' */
    private static void clearTakesAllRules() {
        for (int rules = 0; rules <= 6; rules++) {
            Broker broker = new Broker();
            broker.policy();
            broker.policy();
            broker.policy();
            for (int rule = 1; rule <= rules; rule++) {
                broker.allow(1, rule, true, READ);
            }
            broker.allow(0, 1, true, WRITE);
            broker.allow(2, 1, true, LIST);
            broker.create(0, 7, 1, 1, 0);
            CHECKS.due(rules + " rules", broker.ask("clear", 1), rules);
            CHECKS.due("none are left", broker.ask("clear", 1), 0);
            for (int path = 1; path <= 6; path++) {
                CHECKS.due("what the others allow", broker.capabilities(1, path), path == 1 ? WRITE | LIST : 0);
            }
            CHECKS.due("the next rule is the first", broker.ask("allow", 1, 6, 0, READ), 1);
            CHECKS.due("and alone", broker.capabilities(1, 6), READ);
            CHECKS.due("not the old ones", broker.capabilities(1, 2), 0);
            CHECKS.due("the policy stays", broker.ask("policy"), 3);
        }
    }

    /** Promise 4: 'Throws IndexOutOfBoundsException if there is no such policy'. */
    private static void clearNeedsAPolicyThatThereIs() {
        CHECKS.refused(Pasts::nothing, BAD_NUMBER, "clear", 0);
        for (int policy : new int[] {-1, 3, 7, 8, LEAST, MOST}) {
            CHECKS.refused(Pasts::lived, BAD_NUMBER, "clear", policy);
        }
        for (int policy : new int[] {-1, 8, LEAST, MOST}) {
            CHECKS.refused(Pasts::full, BAD_NUMBER, "clear", policy);
        }
        CHECKS.answered(Pasts::lived, 2, "clear", 0);
        CHECKS.answered(Pasts::lived, 1, "clear", 2);
        CHECKS.answered(Pasts::full, 6, "clear", 0);
        CHECKS.answered(Pasts::full, 6, "clear", 7);
    }

    /** Promise 5: 'IllegalArgumentException if path is none'; PathEdgesTest has all the numbers. */
    private static void mountNeedsAPath() {
        for (int path : new int[] {0, -1, 9, 19, 91, 10, 1111111, 911111, 111119, LEAST, MOST}) {
            CHECKS.refused(Pasts::lived, BAD_ARGUMENT, "mount", path, 1, 1);
        }
        for (int path : new int[] {8, 11, 18, 81, 111111, 888888}) {
            CHECKS.answered(Pasts::lived, 4, "mount", path, 1, 1);
        }
    }

    /** Promise 5: 'minutes: 1 to 1000', a mount that is there as well as a new one. */
    private static void mountNeeds1To1000Minutes() {
        for (int minutes : new int[] {0, 1001, -1, LEAST, MOST}) {
            CHECKS.refused(Pasts::lived, BAD_ARGUMENT, "mount", 1, minutes, 5000);
            CHECKS.refused(Pasts::lived, BAD_ARGUMENT, "mount", 8, minutes, 5000);
        }
        for (int minutes : new int[] {1, 2, 999, 1000}) {
            Broker broker = Checks.after(Pasts::lived);
            CHECKS.due("minutes " + minutes, broker.ask("mount", 8, minutes, 5000), 4);
            int credential = broker.request(0, 8);
            CHECKS.due("end of " + minutes, broker.endOfCredential(credential), 5 + minutes);
        }
    }

    /** Promise 5: 'bound: minutes to 5000'. */
    private static void mountNeedsABoundFromMinutesTo5000() {
        int[][] wrong = {{1, 0}, {10, 9}, {10, 0}, {10, -10}, {10, 5001}, {1000, 999}, {1000, 5001},
            {10, LEAST}, {10, MOST}};
        for (int[] pair : wrong) {
            CHECKS.refused(Pasts::lived, BAD_ARGUMENT, "mount", 1, pair[0], pair[1]);
            CHECKS.refused(Pasts::lived, BAD_ARGUMENT, "mount", 8, pair[0], pair[1]);
        }
        int[][] right = {{1, 1}, {1, 2}, {10, 10}, {10, 11}, {1000, 1000}, {1000, 5000}, {1, 5000}, {1, 4999}};
        for (int[] pair : right) {
            Broker broker = Checks.after(Pasts::lived);
            CHECKS.due("bound " + pair[1], broker.ask("mount", 8, pair[0], pair[1]), 4);
            int credential = broker.request(0, 8);
            while (broker.time() < 4100) {
                broker.ask("renewCredential", credential, 1000);
                broker.pass(999);
            }
            broker.ask("renewCredential", credential, 1000);
            CHECKS.due("end by " + pair[1], broker.endOfCredential(credential), 5 + pair[1]);
        }
    }

    /** Promise 5: 'Returns how many mounts there are then', 'if it would be the seventh mount'. */
    private static void sixMountsAndNoSeventh() {
        int[] paths = {1, 11, 111111, 8, 88, 888888};
        Broker broker = new Broker();
        for (int i = 0; i < 6; i++) {
            CHECKS.due("mount " + i, broker.ask("mount", paths[i], 1, 1), i + 1);
        }
        for (int path : new int[] {2, 12, 111, 11111, 888}) {
            CHECKS.due("a seventh at " + path, broker.ask("mount", path, 1, 1), BAD_STATE);
        }
        for (int path : paths) {
            CHECKS.due("one of six anew", broker.ask("mount", path, 5, 5), 6);
        }
        CHECKS.due("none at the seventh", broker.whyDenied(0, 2), SecretBroker.UNMOUNTED);
        CHECKS.refused(Pasts::full, BAD_STATE, "mount", 7, 1, 1);
        CHECKS.refused(Pasts::full, BAD_STATE, "mount", 11, 1, 1);
    }

    /** Promise 5: 'or gives the mount at the same path other minutes and another bound; credentials that
     * were given already keep theirs.' */
    private static void theSameMountIsGivenOtherMinutes() {
        int[][] others = {{1, 1}, {9, 12}, {11, 40}, {1000, 5000}};
        for (int[] other : others) {
            Broker broker = new Broker();
            CHECKS.due("first", broker.ask("mount", 1, 10, 20), 1);
            broker.request(0, 1);
            CHECKS.due("anew", broker.ask("mount", 1, other[0], other[1]), 1);
            broker.request(0, 1);
            CHECKS.due("end of the old one", broker.endOfCredential(0), 10);
            CHECKS.due("end of the new one", broker.endOfCredential(1), other[0]);
            CHECKS.due("bound of the old one", broker.ask("renewCredential", 0, 1000), 20);
            CHECKS.due("bound of the new one", broker.ask("renewCredential", 1, 1000), Math.min(other[1], 1000));
        }
    }

    /** Terms: 'Of several mounts the one with the longest path counts', with its minutes and its bound. */
    private static void theLongestMountCounts() {
        int[] paths = {1, 12, 123, 1234, 12345, 123456};
        for (int turn = 0; turn < 12; turn++) {
            Broker broker = new Broker();
            for (int i = 0; i < 6; i++) {
                int mount = turn < 6 ? (i + turn) % 6 : (11 - i + turn) % 6;
                broker.mount(paths[mount], 60 - mount, 90 - 2 * mount);
            }
            for (int i = 0; i < 6; i++) {
                CHECKS.due("given", broker.ask("request", 0, paths[i]), i);
                CHECKS.due("minutes at " + paths[i], broker.endOfCredential(i), 60 - i);
                CHECKS.due("bound at " + paths[i], broker.ask("renewCredential", i, 1000), 90 - 2 * i);
            }
            broker.request(0, 123465);
            CHECKS.due("beside the longest", broker.endOfCredential(6), 57);
            CHECKS.due("beside all", broker.whyDenied(0, 21), SecretBroker.UNMOUNTED);
        }
    }

    /** Terms: the root 'has the capabilities READ, WRITE and LIST at all paths', whatever policies say. */
    private static void theRootHasAllCapabilities() {
        for (int path : new int[] {1, 8, 88, 111111, 123456, 888888}) {
            CHECKS.answered(Pasts::lived, 7, "capabilities", 0, path);
            CHECKS.answered(Pasts::full, 7, "capabilities", 0, path);
        }
        Broker broker = new Broker();
        broker.policy();
        broker.allow(0, 9, true, SecretBroker.DENY);
        CHECKS.due("whatever is denied", broker.ask("capabilities", 0, 1), 7);
    }

    /** Promise 16: 'whether it is alive or not'; 'Returns the set, without DENY.' */
    private static void capabilitiesAliveOrNot() {
        for (int token : new int[] {3, 4, 5}) {
            CHECKS.answered(Pasts::lived, READ, "capabilities", token, 1);
            CHECKS.answered(Pasts::lived, 7, "capabilities", token, 12);
            CHECKS.answered(Pasts::lived, 0, "capabilities", token, 2);
        }
        for (int token : new int[] {2, 6}) {
            CHECKS.answered(Pasts::lived, READ | LIST, "capabilities", token, 1);
            CHECKS.answered(Pasts::lived, READ | WRITE, "capabilities", token, 121);
        }
        CHECKS.answered(Pasts::lived, 0, "capabilities", 1, 2);
        CHECKS.answered(Pasts::lived, 0, "capabilities", 8, 1);
    }

    /** Promise 16: 'Throws IndexOutOfBoundsException if there never was such a token'. */
    private static void capabilitiesNeedATokenThatThereWas() {
        CHECKS.refused(Pasts::nothing, BAD_NUMBER, "capabilities", 1, 1);
        for (int token : new int[] {-1, 9, LEAST, MOST}) {
            CHECKS.refused(Pasts::lived, BAD_NUMBER, "capabilities", token, 1);
        }
        CHECKS.refused(Pasts::full, BAD_NUMBER, "capabilities", 30, 1);
        CHECKS.answered(Pasts::full, WRITE | LIST, "capabilities", 29, 122);
    }

    /** Promise 16: 'Throws IllegalArgumentException if path is none'. */
    private static void capabilitiesNeedAPath() {
        for (int path : new int[] {0, -1, 9, 19, 91, 10, 1111111, 911111, 111119, LEAST, MOST}) {
            CHECKS.refused(Pasts::lived, BAD_ARGUMENT, "capabilities", 0, path);
            CHECKS.refused(Pasts::lived, BAD_ARGUMENT, "capabilities", 8, path);
        }
    }
}
