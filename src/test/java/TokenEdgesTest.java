/** Promises 6 to 15 and the leases of tokens, each sentence at its edges. */
public final class TokenEdgesTest {
    private static final Checks CHECKS = new Checks();
    private static final String BAD_NUMBER = Checks.BAD_NUMBER, BAD_ARGUMENT = Checks.BAD_ARGUMENT;
    private static final String BAD_STATE = Checks.BAD_STATE;
    private static final int LEAST = Integer.MIN_VALUE, MOST = Integer.MAX_VALUE, NONE = SecretBroker.NONE;
    private static final int[] NO_MINUTES = {0, 1001, -1, LEAST, MOST};

    public static void main(String[] args) {
        createNeedsAParentThatThereWas();
        createNeedsPoliciesThatThereAre();
        createNeedsPoliciesOfTheParent();
        createNeeds1To1000Minutes();
        createNeedsABoundFromMinutesTo5000();
        createNeeds0To100Uses();
        createNeedsAParentThatIsAlive();
        thirtyTokensAndNoMore();
        noNumberIsGivenAgain();
        createWritesCreated();
        aliveUntilTheEndHasCome();
        theRootHasNoEnd();
        neverAliveAgain();
        allBelowCeaseWithAToken();
        allBelowCeaseWithTheEndOfAToken();
        renewGoesNoFurtherThanTheBound();
        renewGoesUpTo5000();
        renewGoesNotEarlier();
        renewWritesRenewed();
        renewNeedsATokenThatThereWas();
        renewNeeds1To1000Minutes();
        renewNeedsOneThatIsAliveAndNotTheRoot();
        revokeCountsTokensAndCredentials();
        revokeAloneCountsItselfAndItsCredentials();
        revokeAloneFreesTheChildrenThatAreAlive();
        theFreedGoOn();
        revokeNeedsATokenThatThereWas();
        revokeNeedsOneThatIsAliveAndNotTheRoot();
        questionsNeedATokenThatThereWas();
        isAliveTells();
        parentOfTheRootTheFreedAndTheDead();
        endOfTheDeadAndTheRoot();
        usesLeftFrom100To0();
        requestsAloneTakeUses();
        belowCountsAllBelow();
        tokensFrom1To30();
        CHECKS.end("TokenEdgesTest");
    }

    /** Promise 6: 'Throws IndexOutOfBoundsException if there never was such a token'. */
    private static void createNeedsAParentThatThereWas() {
        CHECKS.refused(Pasts::nothing, BAD_NUMBER, "create", 1, 0, 1, 1, 0);
        for (int parent : new int[] {-1, 9, 10, 512, 513, LEAST, MOST}) {
            CHECKS.refused(Pasts::lived, BAD_NUMBER, "create", parent, 0, 1, 1, 0);
        }
        CHECKS.refused(Pasts::full, BAD_NUMBER, "create", 30, 0, 1, 1, 0);
        CHECKS.answered(Pasts::lived, 9, "create", 0, 0, 1, 1, 0);
        CHECKS.answered(Pasts::lived, 9, "create", 7, 0, 1, 1, 0);
        CHECKS.answered(Pasts::lived, BAD_STATE, "create", 8, 0, 1, 1, 0);
    }

    /** Promise 6: 'IllegalArgumentException if policies has a policy that there is not'. */
    private static void createNeedsPoliciesThatThereAre() {
        for (int policies = 0; policies <= 8; policies++) {
            int count = policies;
            Checks.Past past = broker -> {
                for (int i = 0; i < count; i++) {
                    broker.policy();
                }
            };
            int all = (1 << count) - 1;
            CHECKS.answered(past, 1, "create", 0, 0, 1, 1, 0);
            CHECKS.answered(past, 1, "create", 0, all, 1, 1, 0);
            for (int set : new int[] {all + 1, 2 * all + 1, -1, LEAST, LEAST + all, MOST, 1 << 30}) {
                if (set > all || set < 0) {
                    CHECKS.refused(past, BAD_ARGUMENT, "create", 0, set, 1, 1, 0);
                }
            }
        }
        CHECKS.refused(Pasts::lived, BAD_ARGUMENT, "create", 1, 8, 1, 1, 0);
        CHECKS.answered(Pasts::lived, 9, "create", 1, 7, 1, 1, 0);
    }

    /** Promise 6: 'or that the parent must have and has not'; 'those of a parent other than the root'. */
    private static void createNeedsPoliciesOfTheParent() {
        for (int set = 0; set < 16; set++) {
            for (int wanted = 0; wanted < 16; wanted++) {
                Broker broker = new Broker();
                for (int i = 0; i < 4; i++) {
                    broker.policy();
                }
                CHECKS.due("below the root", broker.ask("create", 0, set, 9, 9, 0), 1);
                boolean has = (wanted | set) == set;
                CHECKS.due(wanted + " below " + set, broker.ask("create", 1, wanted, 1, 1, 0),
                        has ? 2 : BAD_ARGUMENT);
                CHECKS.due(wanted + " below the root", broker.ask("create", 0, wanted, 1, 1, 0), has ? 3 : 2);
            }
        }
        Broker broker = Checks.after(Pasts::lived);
        CHECKS.due("a freed parent must have them", broker.ask("create", 7, 2, 1, 1, 0), BAD_ARGUMENT);
        CHECKS.due("and has some", broker.ask("create", 7, 1, 1, 1, 0), 9);
        CHECKS.due("a policy made behind the parent", broker.ask("policy"), 3);
        CHECKS.due("the root may", broker.ask("create", 0, 8, 1, 1, 0), 10);
        CHECKS.refused(Pasts::lived, BAD_ARGUMENT, "create", 2, 4, 1, 1, 0);
        CHECKS.refused(Pasts::lived, BAD_ARGUMENT, "create", 3, 3, 1, 1, 0);
        CHECKS.refused(Pasts::lived, BAD_ARGUMENT, "create", 7, 2, 1, 1, 0);
    }

    /** Promise 6: 'minutes: its lease, 1 to 1000'; terms: 'the end is the beginning plus the minutes'. */
    private static void createNeeds1To1000Minutes() {
        for (int minutes : NO_MINUTES) {
            CHECKS.refused(Pasts::lived, BAD_ARGUMENT, "create", 0, 0, minutes, 5000, 0);
        }
        for (int minutes : new int[] {1, 2, 999, 1000}) {
            Broker broker = Checks.after(Pasts::lived);
            CHECKS.due("minutes " + minutes, broker.ask("create", 0, 0, minutes, 5000, 0), 9);
            CHECKS.due("end of " + minutes, broker.endOf(9), 5 + minutes);
        }
    }

    /** Promise 6: 'bound: the bound of its lease, minutes to 5000'. */
    private static void createNeedsABoundFromMinutesTo5000() {
        int[][] wrong = {{1, 0}, {10, 9}, {10, 0}, {10, -10}, {10, 5001}, {1000, 999}, {1000, 5001},
            {10, LEAST}, {10, MOST}};
        for (int[] pair : wrong) {
            CHECKS.refused(Pasts::lived, BAD_ARGUMENT, "create", 0, 0, pair[0], pair[1], 0);
        }
        int[][] right = {{1, 1}, {1, 2}, {10, 10}, {10, 11}, {1000, 1000}, {1000, 5000}, {1, 5000}};
        for (int[] pair : right) {
            CHECKS.answered(Pasts::lived, 9, "create", 0, 0, pair[0], pair[1], 0);
        }
    }

    /** Promise 6: 'uses: how often it can be used, 1 to 100; 0 for as often as one likes'. */
    private static void createNeeds0To100Uses() {
        for (int uses : new int[] {-1, 101, LEAST, MOST}) {
            CHECKS.refused(Pasts::lived, BAD_ARGUMENT, "create", 0, 0, 1, 1, uses);
        }
        for (int uses : new int[] {0, 1, 2, 99, 100}) {
            Broker broker = Checks.after(Pasts::lived);
            CHECKS.due("uses " + uses, broker.ask("create", 0, 0, 1, 1, uses), 9);
            CHECKS.due("left of " + uses, broker.usesLeft(9), uses == 0 ? NONE : uses);
        }
    }

    /** Promise 6: 'Throws IllegalStateException if the parent is not alive', however it ceased. */
    private static void createNeedsAParentThatIsAlive() {
        for (int parent : new int[] {4, 5, 6, 8}) {
            CHECKS.refused(Pasts::lived, BAD_STATE, "create", parent, 0, 1, 1, 0);
        }
        Broker broker = new Broker();
        broker.create(0, 0, 10, 10, 0);
        broker.pass(9);
        CHECKS.due("in the last minute", broker.ask("create", 1, 0, 1000, 5000, 0), 2);
        broker.pass(1);
        CHECKS.due("behind it", broker.ask("create", 1, 0, 1000, 5000, 0), BAD_STATE);
        CHECKS.due("below one that ceased with it", broker.ask("create", 2, 0, 1, 1, 0), BAD_STATE);
    }

    /** Promise 6: 'or 30 tokens are alive, the root among them'; the dead leave room. */
    private static void thirtyTokensAndNoMore() {
        Broker broker = new Broker();
        for (int token = 1; token <= 29; token++) {
            CHECKS.due("token " + token, broker.ask("create", token - 1, 0, 100, 100, 0), token);
        }
        CHECKS.due("thirty", broker.tokens(), 30);
        CHECKS.due("one more", broker.ask("create", 0, 0, 1, 1, 0), BAD_STATE);
        CHECKS.due("one more below the last", broker.ask("create", 29, 0, 1, 1, 0), BAD_STATE);
        broker.revoke(29);
        CHECKS.due("behind a revocation", broker.ask("create", 0, 0, 5, 5, 0), 30);
        CHECKS.due("full again", broker.ask("create", 0, 0, 1, 1, 0), BAD_STATE);
        broker.revokeAlone(5);
        CHECKS.due("behind one alone", broker.ask("create", 0, 0, 50, 50, 0), 31);
        CHECKS.due("full again", broker.ask("create", 0, 0, 1, 1, 0), BAD_STATE);
        broker.pass(4);
        CHECKS.due("still full", broker.ask("create", 0, 0, 1, 1, 0), BAD_STATE);
        broker.pass(1);
        CHECKS.due("behind an end", broker.ask("create", 0, 0, 5, 5, 0), 32);
        CHECKS.due("full at last", broker.ask("create", 0, 0, 1, 1, 0), BAD_STATE);
        CHECKS.refused(Pasts::full, BAD_STATE, "create", 0, 0, 1, 1, 0);
        CHECKS.refused(Pasts::full, BAD_STATE, "create", 29, 255, 1000, 5000, 100);
    }

    /** Terms: 'numbered from 1 in the order in which they are made; no number is given again'. */
    private static void noNumberIsGivenAgain() {
        Broker broker = new Broker();
        CHECKS.due("the first", broker.ask("create", 0, 0, 9, 9, 0), 1);
        broker.revoke(1);
        CHECKS.due("behind a revocation", broker.ask("create", 0, 0, 9, 9, 0), 2);
        broker.revokeAlone(2);
        CHECKS.due("behind one alone", broker.ask("create", 0, 0, 1, 1, 0), 3);
        broker.pass(1);
        CHECKS.due("behind an end", broker.ask("create", 0, 0, 9, 9, 0), 4);
        CHECKS.due("refused", broker.ask("create", 1, 0, 9, 9, 0), BAD_STATE);
        CHECKS.due("refused, too", broker.ask("create", 0, 0, 0, 9, 0), BAD_ARGUMENT);
        CHECKS.due("refused as well", broker.ask("create", 9, 0, 9, 9, 0), BAD_NUMBER);
        CHECKS.due("behind refusals", broker.ask("create", 4, 0, 9, 9, 0), 5);
    }

    /** Promise 6: 'writes CREATED with the parent as the subject and the new number as the detail'. */
    private static void createWritesCreated() {
        for (int parent : new int[] {0, 1, 3, 7}) {
            Broker broker = Checks.after(Pasts::lived);
            broker.create(parent, 0, 1, 1, 0);
            CHECKS.entry("below " + parent, broker, 20, SecretBroker.CREATED, parent, 9);
            CHECKS.due("its parent", broker.parentOf(9), parent);
        }
    }

    /** Terms: 'alive from its beginning on, until its end has come (the time is not less than its end)'. */
    private static void aliveUntilTheEndHasCome() {
        for (int beginning : new int[] {0, 7}) {
            for (int minutes : new int[] {1, 2, 10, 999, 1000}) {
                for (int over = -1; over <= 2; over++) {
                    Broker broker = new Broker();
                    if (beginning > 0) {
                        broker.pass(beginning);
                    }
                    broker.create(0, 0, minutes, 5000, 0);
                    CHECKS.due("alive from the beginning on", broker.isAlive(1), true);
                    for (int rest = minutes + over; rest > 0; rest -= 1000) {
                        broker.pass(Math.min(rest, 1000));
                    }
                    CHECKS.due("alive " + over + " behind " + minutes, broker.isAlive(1), over < 0);
                    CHECKS.due("tokens then", broker.tokens(), over < 0 ? 2 : 1);
                }
            }
        }
    }

    /** Terms: the root 'is there from the beginning, has no end'. */
    private static void theRootHasNoEnd() {
        Broker broker = new Broker();
        for (int i = 0; i < 506; i++) {
            broker.pass(1000);
        }
        CHECKS.due("alive", broker.isAlive(0), true);
        CHECKS.due("end", broker.endOf(0), NONE);
        CHECKS.due("next end", broker.nextEnd(), NONE);
        CHECKS.due("entries", broker.entries(), 0);
        CHECKS.due("parent of a token", broker.ask("create", 0, 0, 1, 1, 0), 1);
    }

    /** Terms: 'once it is not alive, it never is again'. */
    private static void neverAliveAgain() {
        Broker broker = Checks.after(Pasts::lived);
        for (int round = 0; round < 6; round++) {
            for (int token : new int[] {4, 5, 6, 8}) {
                CHECKS.due("dead " + token, broker.isAlive(token), false);
                CHECKS.due("renewed dead " + token, broker.ask("renew", token, 1000), BAD_STATE);
            }
            for (int credential : new int[] {3, 6}) {
                CHECKS.due("dead credential", broker.works(credential), false);
                CHECKS.due("renewed", broker.ask("renewCredential", credential, 1000), BAD_STATE);
            }
            broker.ask("renew", 1, 1000);
            broker.create(0, 7, 5, 5, 0);
            broker.request(0, 22);
            broker.pass(round + 1);
        }
    }

    /** 29 tokens, each below the one ahead of it, and 40 credentials, the token c % 30 has c. */
    private static Broker chain(int minutesOfTheFirst) {
        Broker broker = new Broker();
        broker.policy();
        broker.allow(0, 9, true, SecretBroker.READ);
        broker.mount(1, 1000, 5000);
        for (int token = 1; token < 30; token++) {
            broker.create(token - 1, 1, token == 1 ? minutesOfTheFirst : 1000, 1000, 0);
        }
        for (int credential = 0; credential < 40; credential++) {
            broker.request(credential % 30, 1);
        }
        return broker;
    }

    /** Terms: 'When a token ceases to be alive, ... all tokens below it and all credentials of these and of
     * itself cease, too', however deep. */
    private static void allBelowCeaseWithAToken() {
        for (int revoked : new int[] {1, 2, 10, 28, 29}) {
            Broker broker = chain(1000);
            int credentials = 30 - revoked + Math.max(0, 10 - revoked);
            CHECKS.due("ceased with " + revoked, broker.ask("revoke", revoked), 30 - revoked + credentials);
            for (int token = 0; token < 30; token++) {
                CHECKS.due(token + " alive without " + revoked, broker.isAlive(token), token < revoked);
            }
            for (int credential = 0; credential < 40; credential++) {
                CHECKS.due("credential " + credential + " without " + revoked, broker.works(credential),
                        credential % 30 < revoked);
            }
            CHECKS.due("tokens", broker.tokens(), revoked);
            CHECKS.due("credentials", broker.credentials(), 40 - credentials);
        }
    }

    /** The same 'by its end', and 'as far as they are alive': what ceased earlier is not counted again. */
    private static void allBelowCeaseWithTheEndOfAToken() {
        Broker broker = chain(10);
        CHECKS.due("just ahead", broker.ask("pass", 9), 0);
        CHECKS.due("alone", broker.ask("revokeAlone", 20), 2);
        CHECKS.due("below", broker.ask("revoke", 25), 10);
        CHECKS.due("with its end", broker.ask("pass", 1), 19 + 19 + 9);
        CHECKS.due("the freed go on", broker.tokens(), 1 + 4);
        CHECKS.due("and their credentials, and the root's", broker.credentials(), 4 + 2);
        CHECKS.due("the last one", broker.isAlive(24), true);
        CHECKS.due("the rest by its own end", broker.ask("pass", 990), 4 + 6);
        Broker both = new Broker();
        both.mount(1, 10, 10);
        both.create(0, 0, 10, 10, 0);
        both.create(1, 0, 10, 10, 0);
        both.create(2, 0, 9, 9, 0);
        both.request(0, 1);
        CHECKS.due("the short one alone", both.ask("pass", 9), 1);
        CHECKS.due("each once, at one time", both.ask("pass", 1), 3);
        CHECKS.due("none again", both.ask("pass", 1000), 0);
    }

    /** Terms: 'its end becomes the time plus these minutes, but not later than the beginning plus the
     * bound'. */
    private static void renewGoesNoFurtherThanTheBound() {
        for (int beginning : new int[] {0, 7}) {
            for (int bound : new int[] {10, 11, 25}) {
                for (int passed = 0; passed < 10; passed++) {
                    renew(beginning, bound, passed);
                }
            }
        }
    }

    private static void renew(int beginning, int bound, int passed) {
        int[] longer = {1, 2, 10 - passed - 1, 10 - passed, 10 - passed + 1, bound - passed - 1,
            bound - passed, bound - passed + 1, 999, 1000};
        for (int minutes : longer) {
            if (minutes > 0) {
                Broker broker = new Broker();
                if (beginning > 0) {
                    broker.pass(beginning);
                }
                broker.create(0, 0, 10, bound, 0);
                if (passed > 0) {
                    broker.pass(passed);
                }
                int behind = passed + minutes < 10 ? 10 : passed + minutes > bound ? bound : passed + minutes;
                CHECKS.due("renewed by " + minutes, broker.ask("renew", 1, minutes), beginning + behind);
                CHECKS.due("its end", broker.endOf(1), beginning + behind);
                if (behind - passed > 1) {
                    CHECKS.due("not yet", broker.ask("pass", behind - passed - 1), 0);
                }
                CHECKS.due("alive ahead of the end", broker.isAlive(1), true);
                CHECKS.due("ends then", broker.ask("pass", 1), 1);
                CHECKS.due("no longer alive", broker.isAlive(1), false);
            }
        }
    }

    /** Promise 6: 'minutes to 5000': the greatest bound is reached to the minute, and none goes behind it. */
    private static void renewGoesUpTo5000() {
        for (int bound : new int[] {4999, 5000}) {
            Broker broker = new Broker();
            broker.pass(3);
            broker.create(0, 0, 1000, bound, 0);
            for (int i = 1; i <= 4; i++) {
                broker.pass(999);
                CHECKS.due("by 1000", broker.ask("renew", 1, 1000), 3 + 999 * i + 1000);
            }
            broker.pass(999);
            CHECKS.due("up to the bound", broker.ask("renew", 1, 1000), 3 + bound);
            CHECKS.due("and no further", broker.ask("renew", 1, 6), 3 + bound);
            CHECKS.due("ahead of it", broker.ask("pass", bound - 4995 - 1), 0);
            CHECKS.due("in the last minute", broker.ask("renew", 1, 1000), 3 + bound);
            CHECKS.due("at it", broker.ask("pass", 1), 1);
            CHECKS.due("behind it", broker.ask("renew", 1, 1000), BAD_STATE);
        }
    }

    /** Terms: 'and not earlier than it is'. */
    private static void renewGoesNotEarlier() {
        Broker broker = new Broker();
        broker.create(0, 0, 100, 200, 0);
        for (int minutes : new int[] {1, 50, 99, 100}) {
            CHECKS.due("no earlier by " + minutes, broker.ask("renew", 1, minutes), 100);
        }
        CHECKS.due("one later", broker.ask("renew", 1, 101), 101);
        CHECKS.due("no earlier again", broker.ask("renew", 1, 100), 101);
        CHECKS.due("to the bound", broker.ask("renew", 1, 200), 200);
        CHECKS.due("and not back", broker.ask("renew", 1, 1), 200);
        CHECKS.due("its end", broker.endOf(1), 200);
    }

    /** Promise 7: 'writes RENEWED with the token as the subject and its end as the detail', changed or not. */
    private static void renewWritesRenewed() {
        int[][] due = {{1, 995, 1000}, {1, 1, 1000}, {2, 1000, 600}, {3, 1, 400}, {7, 75, 80}, {7, 76, 81}};
        for (int[] its : due) {
            Broker broker = Checks.after(Pasts::lived);
            CHECKS.due("renewed", broker.ask("renew", its[0], its[1]), its[2]);
            CHECKS.entry("renewed", broker, 20, SecretBroker.RENEWED, its[0], its[2]);
        }
    }

    /** Promise 7: 'Throws IndexOutOfBoundsException if there never was such a token'. */
    private static void renewNeedsATokenThatThereWas() {
        CHECKS.refused(Pasts::nothing, BAD_NUMBER, "renew", 1, 1);
        for (int token : new int[] {-1, 9, 10, 513, LEAST, MOST}) {
            CHECKS.refused(Pasts::lived, BAD_NUMBER, "renew", token, 1);
        }
        CHECKS.refused(Pasts::full, BAD_NUMBER, "renew", 30, 1);
        CHECKS.answered(Pasts::full, 129, "renew", 29, 1);
        CHECKS.answered(Pasts::full, 101, "renew", 1, 1);
    }

    /** Promise 7: 'minutes: 1 to 1000'. */
    private static void renewNeeds1To1000Minutes() {
        for (int minutes : NO_MINUTES) {
            CHECKS.refused(Pasts::lived, BAD_ARGUMENT, "renew", 1, minutes);
        }
        CHECKS.answered(Pasts::lived, 1000, "renew", 1, 1);
        CHECKS.answered(Pasts::lived, 1000, "renew", 1, 995);
        CHECKS.answered(Pasts::lived, 1004, "renew", 1, 999);
        CHECKS.answered(Pasts::lived, 1005, "renew", 1, 1000);
    }

    /** Promise 7: 'Throws IllegalStateException if it is the root, or not alive', however it ceased. */
    private static void renewNeedsOneThatIsAliveAndNotTheRoot() {
        for (int token : new int[] {0, 4, 5, 6, 8}) {
            CHECKS.refused(Pasts::lived, BAD_STATE, "renew", token, 1);
            CHECKS.refused(Pasts::lived, BAD_STATE, "renew", token, 1000);
        }
        CHECKS.refused(Pasts::nothing, BAD_STATE, "renew", 0, 1);
    }

    /** Promise 8: 'Returns how many tokens and credentials cease to be alive by that, together', and
     * 'writes REVOKED with the token as the subject and what is returned as the detail'. */
    private static void revokeCountsTokensAndCredentials() {
        int[][] lived = {{1, 6}, {2, 4}, {3, 2}, {7, 2}};
        for (int[] its : lived) {
            Broker broker = Checks.after(Pasts::lived);
            CHECKS.due("revoke " + its[0], broker.ask("revoke", its[0]), its[1]);
            CHECKS.entry("revoke " + its[0], broker, 20, SecretBroker.REVOKED, its[0], its[1]);
        }
        int[][] full = {{1, 67}, {29, 2}, {15, 2}, {14, 6}};
        for (int[] its : full) {
            Broker broker = Checks.after(Pasts::full);
            CHECKS.due("revoke " + its[0], broker.ask("revoke", its[0]), its[1]);
            CHECKS.entry("revoke " + its[0], broker, 70, SecretBroker.REVOKED, its[0], its[1]);
        }
        Broker broker = new Broker();
        broker.create(0, 0, 1, 1, 0);
        CHECKS.due("itself alone", broker.ask("revoke", 1), 1);
        CHECKS.entry("itself alone", broker, 2, SecretBroker.REVOKED, 1, 1);
    }

    /** Promise 9: 'Returns 1 and the number of credentials that cease', 'writes REVOKED as revoke() does'. */
    private static void revokeAloneCountsItselfAndItsCredentials() {
        int[][] lived = {{1, 2}, {2, 2}, {3, 2}, {7, 2}};
        for (int[] its : lived) {
            Broker broker = Checks.after(Pasts::lived);
            CHECKS.due("alone " + its[0], broker.ask("revokeAlone", its[0]), its[1]);
            CHECKS.entry("alone " + its[0], broker, 20, SecretBroker.REVOKED, its[0], its[1]);
            CHECKS.due("no other token", broker.tokens(), 4);
            CHECKS.due("no other credential", broker.credentials(), 4);
        }
        for (int credentials : new int[] {0, 1, 39, 40}) {
            Broker broker = new Broker();
            broker.policy();
            broker.allow(0, 1, true, SecretBroker.READ);
            broker.mount(1, 9, 9);
            broker.create(0, 1, 9, 9, 0);
            broker.create(1, 1, 9, 9, 0);
            for (int i = 0; i < credentials; i++) {
                broker.request(1, 1);
            }
            CHECKS.due("with " + credentials, broker.ask("revokeAlone", 1), 1 + credentials);
            CHECKS.entry("alone", broker, 3 + credentials, SecretBroker.REVOKED, 1, 1 + credentials);
            CHECKS.due("none is left", broker.credentials(), 0);
            CHECKS.due("the child is alive", broker.isAlive(2), true);
        }
    }

    /** Promise 9: 'the tokens whose parent it is, as far as they are alive, have no parent from then on'. */
    private static void revokeAloneFreesTheChildrenThatAreAlive() {
        Broker broker = new Broker();
        int[] parents = {0, 1, 1, 1, 1, 2, 0, 7};
        for (int i = 0; i < parents.length; i++) {
            broker.create(parents[i], 0, i == 2 ? 5 : 100, 100, 0);
        }
        broker.pass(5);
        broker.revoke(4);
        broker.revokeAlone(1);
        int[] due = {NONE, 0, NONE, 1, 1, NONE, 2, 0, 7};
        boolean[] alive = {true, false, true, false, false, true, true, true, true};
        for (int token = 0; token < due.length; token++) {
            CHECKS.due("parent of " + token, broker.parentOf(token), due[token]);
            CHECKS.due(token + " alive", broker.isAlive(token), alive[token]);
        }
        CHECKS.due("the freed are below none", broker.below(0), 2);
        CHECKS.due("nor below it", broker.below(1), 0);
        CHECKS.due("a grandchild is where it was", broker.below(2), 1);
    }

    /** Promise 9: 'and go on': whatever becomes of those that had been above. */
    private static void theFreedGoOn() {
        for (String how : new String[] {"revoke", "revokeAlone", "pass"}) {
            Broker broker = new Broker();
            broker.policy();
            broker.allow(0, 1, true, SecretBroker.READ);
            broker.mount(1, 500, 500);
            for (int token = 1; token <= 4; token++) {
                broker.create(token - 1, 1, token == 1 ? 50 : 500, 600, token == 3 ? 3 : 0);
                broker.request(token, 1);
            }
            CHECKS.due("alone", broker.ask("revokeAlone", 2), 2);
            CHECKS.due(how, broker.ask(how, how.equals("pass") ? 50 : 1), 2);
            for (int token = 3; token <= 4; token++) {
                CHECKS.due("alive " + token, broker.isAlive(token), true);
                CHECKS.due("its credential works", broker.works(token - 1), true);
                CHECKS.due("may renew", broker.ask("renew", token, 1), 500);
                CHECKS.due("may create", broker.ask("create", token, 1, 1, 1, 0), token + 2);
                CHECKS.due("may request", broker.ask("request", token, 1), token + 1);
            }
            CHECKS.due("uses left", broker.usesLeft(3), 1);
            CHECKS.due("the freed one ends with its own", broker.ask("revoke", 3), 8);
            CHECKS.due("none is left", broker.tokens(), 1);
        }
    }

    /** Promises 8 and 9: 'Throws IndexOutOfBoundsException if there never was such a token'. */
    private static void revokeNeedsATokenThatThereWas() {
        for (String call : new String[] {"revoke", "revokeAlone"}) {
            CHECKS.refused(Pasts::nothing, BAD_NUMBER, call, 1);
            for (int token : new int[] {-1, 9, 10, 513, LEAST, MOST}) {
                CHECKS.refused(Pasts::lived, BAD_NUMBER, call, token);
            }
            CHECKS.refused(Pasts::full, BAD_NUMBER, call, 30);
        }
    }

    /** Promises 8 and 9: 'Throws IllegalStateException if it is the root, or not alive'. */
    private static void revokeNeedsOneThatIsAliveAndNotTheRoot() {
        for (String call : new String[] {"revoke", "revokeAlone"}) {
            for (int token : new int[] {0, 4, 5, 6, 8}) {
                CHECKS.refused(Pasts::lived, BAD_STATE, call, token);
            }
            CHECKS.refused(Pasts::nothing, BAD_STATE, call, 0);
            CHECKS.refused(Pasts::full, BAD_STATE, call, 0);
            Broker broker = new Broker();
            broker.create(0, 0, 2, 2, 0);
            broker.create(0, 0, 2, 2, 0);
            broker.pass(1);
            CHECKS.due("in the last minute", broker.ask(call, 1), 1);
            CHECKS.due("twice", broker.ask(call, 1), BAD_STATE);
            broker.pass(1);
            CHECKS.due("at the end", broker.ask(call, 2), BAD_STATE);
        }
    }

    /** Promises 10 to 14 and 24: 'Throws IndexOutOfBoundsException if there never was such a token'. */
    private static void questionsNeedATokenThatThereWas() {
        String[] calls = {"isAlive", "parentOf", "endOf", "usesLeft", "below", "credentialsOf"};
        Object[] ofTheLast = {false, 0, 50, 100, 0, 0};
        for (int i = 0; i < calls.length; i++) {
            CHECKS.refused(Pasts::nothing, BAD_NUMBER, calls[i], 1);
            CHECKS.refused(Pasts::nothing, BAD_NUMBER, calls[i], -1);
            for (int token : new int[] {-1, 9, 10, 512, 513, LEAST, MOST}) {
                CHECKS.refused(Pasts::lived, BAD_NUMBER, calls[i], token);
            }
            CHECKS.refused(Pasts::full, BAD_NUMBER, calls[i], 30);
            CHECKS.answered(Pasts::lived, ofTheLast[i], calls[i], 8);
        }
    }

    /** Promise 10: 'Tells whether a token is alive.' */
    private static void isAliveTells() {
        for (int token = 0; token < 9; token++) {
            CHECKS.answered(Pasts::lived, token < 4 || token == 7, "isAlive", token);
        }
        CHECKS.answered(Pasts::full, true, "isAlive", 0);
        CHECKS.answered(Pasts::full, true, "isAlive", 29);
    }

    /** Promise 11: 'the parent of a token, alive or not', 'NONE for the root, and for a token that was alive
     * when its parent was revoked alone'. */
    private static void parentOfTheRootTheFreedAndTheDead() {
        int[] due = {NONE, 0, 1, 2, 0, 4, 1, NONE, 0};
        for (int token = 0; token < due.length; token++) {
            CHECKS.answered(Pasts::lived, due[token], "parentOf", token);
        }
        Broker broker = Checks.after(Pasts::lived);
        broker.revoke(7);
        CHECKS.due("freed, and dead now", broker.parentOf(7), NONE);
        broker.revokeAlone(2);
        CHECKS.due("freed", broker.parentOf(3), NONE);
        CHECKS.due("revoked alone itself", broker.parentOf(2), 1);
        broker.revoke(1);
        CHECKS.due("revoked", broker.parentOf(1), 0);
        CHECKS.due("dead already, its parent revoked", broker.parentOf(2), 1);
        broker.pass(1000);
        CHECKS.due("its end has come", broker.parentOf(3), NONE);
    }

    /** Promise 12: 'alive or not, whether something else has ended it earlier or not'; 'NONE for the root'. */
    private static void endOfTheDeadAndTheRoot() {
        int[] due = {NONE, 1000, 500, 400, 5, 90, 90, 80, 50};
        for (int token = 0; token < due.length; token++) {
            CHECKS.answered(Pasts::lived, due[token], "endOf", token);
        }
        Broker broker = Checks.after(Pasts::lived);
        broker.renew(2, 550);
        broker.revoke(1);
        broker.pass(1000);
        CHECKS.due("revoked", broker.endOf(1), 1000);
        CHECKS.due("renewed, then ended with its parent", broker.endOf(2), 555);
        CHECKS.due("ended with it, too", broker.endOf(3), 400);
        CHECKS.due("by its end", broker.endOf(7), 80);
    }

    /** Promise 13: 'how often a token can still be used', 'NONE if ... as often as one likes'. */
    private static void usesLeftFrom100To0() {
        int[] due = {NONE, NONE, 2, 0, NONE, NONE, 2, 4, 100};
        for (int token = 0; token < due.length; token++) {
            CHECKS.answered(Pasts::lived, due[token], "usesLeft", token);
        }
        Broker broker = new Broker();
        broker.create(0, 0, 1, 1, 100);
        for (int used = 0; used < 100; used++) {
            CHECKS.due("left", broker.usesLeft(1), 100 - used);
            CHECKS.due("has some", broker.whyDenied(1, 1), SecretBroker.UNMOUNTED);
            broker.request(1, 1);
        }
        CHECKS.due("none left", broker.usesLeft(1), 0);
        CHECKS.due("used up", broker.whyDenied(1, 1), SecretBroker.USED_UP);
        broker.request(1, 1);
        CHECKS.due("no fewer", broker.usesLeft(1), 0);
        broker.pass(1);
        CHECKS.due("dead", broker.usesLeft(1), 0);
    }

    /** Terms: 'A token may have a number of uses, which requests alone take', its own requests. */
    private static void requestsAloneTakeUses() {
        Broker broker = Checks.after(Pasts::lived);
        int[][] others = {{7, 9}, {7, 1}, {2, 11}};
        broker.ask("renew", 7, 9);
        broker.ask("create", 7, 1, 9, 9, 7);
        broker.ask("create", 2, 1, 9, 9, 7);
        broker.ask("renewCredential", 5, 3);
        for (int[] other : others) {
            broker.ask("capabilities", other[0], 1);
            broker.ask("whyDenied", other[0], other[1]);
        }
        broker.ask("request", 9, 1);
        broker.ask("request", 10, 1);
        broker.ask("request", 1, 1);
        broker.ask("revokeBelow", 1);
        broker.ask("revoke", 9);
        broker.ask("pass", 1);
        broker.ask("allow", 0, 1, 1, 7);
        for (String call : new String[] {"isAlive", "parentOf", "endOf", "below", "credentialsOf", "usesLeft"}) {
            broker.ask(call, 7);
            broker.ask(call, 2);
        }
        CHECKS.due("uses of 7", broker.usesLeft(7), 4);
        CHECKS.due("uses of 2", broker.usesLeft(2), 2);
        CHECKS.due("uses of its child", broker.usesLeft(10), 6);
        broker.request(2, 1);
        CHECKS.due("one taken", broker.usesLeft(2), 1);
        CHECKS.due("of the child none", broker.usesLeft(10), 6);
    }

    /** Promise 14: 'those whose parent it is, those whose parents these are, and so on', 'itself not'. */
    private static void belowCountsAllBelow() {
        int[] lived = {3, 2, 1, 0, 0, 0, 0, 0, 0};
        for (int token = 0; token < lived.length; token++) {
            CHECKS.answered(Pasts::lived, lived[token], "below", token);
        }
        int[] tokens = {0, 1, 2, 7, 14, 15, 29};
        int[] full = {29, 28, 14, 4, 2, 0, 0};
        for (int i = 0; i < tokens.length; i++) {
            CHECKS.answered(Pasts::full, full[i], "below", tokens[i]);
        }
        Broker chain = chain(1000);
        for (int token = 0; token < 30; token++) {
            CHECKS.due("below " + token, chain.below(token), 29 - token);
        }
    }

    /** Promise 15: 'how many tokens are alive, the root among them'. */
    private static void tokensFrom1To30() {
        CHECKS.answered(Pasts::nothing, 1, "tokens");
        CHECKS.answered(Pasts::lived, 5, "tokens");
        CHECKS.answered(Pasts::full, 30, "tokens");
        Broker broker = Checks.after(Pasts::full);
        broker.revokeAlone(1);
        CHECKS.due("one less", broker.tokens(), 29);
        broker.pass(1000);
        CHECKS.due("the root alone", broker.tokens(), 1);
    }
}
