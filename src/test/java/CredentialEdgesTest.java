/** Promises 17 to 24 and the leases of credentials, each sentence at its edges. */
public final class CredentialEdgesTest {
    private static final Checks CHECKS = new Checks();
    private static final String BAD_NUMBER = Checks.BAD_NUMBER, BAD_ARGUMENT = Checks.BAD_ARGUMENT;
    private static final String BAD_STATE = Checks.BAD_STATE;
    private static final int LEAST = Integer.MIN_VALUE, MOST = Integer.MAX_VALUE, NONE = SecretBroker.NONE;
    private static final int READ = SecretBroker.READ, DENY = SecretBroker.DENY;
    private static final int FINE = SecretBroker.FINE, ENDED = SecretBroker.ENDED;
    private static final int USED_UP = SecretBroker.USED_UP, UNMOUNTED = SecretBroker.UNMOUNTED;
    private static final int FORBIDDEN = SecretBroker.FORBIDDEN;
    private static final int[] NO_MINUTES = {0, 1001, -1, LEAST, MOST};
    private static final int[] NO_PATHS = {0, -1, 9, 19, 91, 10, 1111111, 911111, 111119, LEAST, MOST};

    public static void main(String[] args) {
        theFirstReasonThatApplies();
        readIsWhatARequestNeeds();
        aRequestTakesAUseEitherWay();
        credentialsAreNumberedFrom0();
        requestWritesGrantedOrDenied();
        requestNeedsATokenThatThereWas();
        requestNeedsAPath();
        fortyCredentialsAndNoMore();
        atFortyDenialsGoOn();
        whyDeniedNeedsATokenThatThereWas();
        whyDeniedNeedsAPath();
        worksUntilTheEndHasCome();
        minutesOfTheMountAsItIsGiven();
        renewGoesNoFurtherThanTheBound();
        renewGoesUpTo5000();
        renewWritesRenewedWithItsToken();
        renewNeedsACredentialThatThereWas();
        renewNeeds1To1000Minutes();
        renewNeedsOneThatIsAlive();
        revokeBelowCountsThoseAlive();
        revokeBelowWritesRevokedWithTheRoot();
        revokeBelowNeedsAPath();
        questionsNeedACredentialThatThereWas();
        worksTells();
        endOfTheDead();
        credentialsFrom0To40();
        credentialsOfCountsNoneBelow();
        CHECKS.end("CredentialEdgesTest");
    }

    /**
     * READ at 1, where there is a mount, and at 2, where there is none; a mount at 3, and nothing at 4. The
     * tokens 1 to 3 are alive, 4 to 6 were revoked; 1 and 4 have no number of uses, 2 and 5 have two left,
     * 3 and 6 have none.
     */
    private static void reasons(Broker broker) {
        broker.policy();
        broker.allow(0, 1, true, READ);
        broker.allow(0, 2, true, READ);
        broker.allow(0, 3, true, SecretBroker.WRITE | SecretBroker.LIST);
        broker.mount(1, 10, 10);
        broker.mount(3, 10, 10);
        for (int token = 1; token <= 6; token++) {
            broker.create(0, 1, 1000, 1000, token % 3 == 1 ? 0 : token % 3 == 2 ? 2 : 1);
        }
        broker.request(3, 2);
        broker.request(6, 2);
        for (int token = 4; token <= 6; token++) {
            broker.revoke(token);
        }
    }

    private static int reason(int token, int path) {
        if (token >= 4) {
            return ENDED;
        }
        if (token == 3) {
            return USED_UP;
        }
        return path % 2 == 0 ? UNMOUNTED : path == 3 ? FORBIDDEN : FINE;
    }

    /** Promise 18: 'Returns the first that applies of ENDED, USED_UP, UNMOUNTED and FORBIDDEN; FINE if none
     * does', and promise 17: 'DENIED with the token as the subject and the reason as the detail'. */
    private static void theFirstReasonThatApplies() {
        for (int token = 1; token <= 6; token++) {
            for (int path = 1; path <= 4; path++) {
                int due = reason(token, path);
                Broker broker = Checks.after(CredentialEdgesTest::reasons);
                String what = "token " + token + " at " + path;
                CHECKS.due(what, broker.ask("whyDenied", token, path), due);
                CHECKS.due(what + ", nothing written", broker.entries(), 11);
                CHECKS.due(what + ", requested", broker.ask("request", token, path), due == FINE ? 0 : NONE);
                CHECKS.entry(what, broker, 12, due == FINE ? SecretBroker.GRANTED : SecretBroker.DENIED, token,
                        due == FINE ? 0 : due);
            }
        }
        Broker ended = new Broker();
        ended.create(0, 0, 2, 2, 1);
        ended.pass(1);
        CHECKS.due("in the last minute", ended.whyDenied(1, 1), UNMOUNTED);
        ended.pass(1);
        CHECKS.due("at the end", ended.whyDenied(1, 1), ENDED);
        CHECKS.due("the root", ended.whyDenied(0, 1), UNMOUNTED);
    }

    /** The constants: FORBIDDEN if 'the token has no capability READ there'. */
    private static void readIsWhatARequestNeeds() {
        for (int set = 0; set < 16; set++) {
            Broker broker = new Broker();
            broker.policy();
            broker.allow(0, 12, false, set);
            broker.mount(1, 1, 1);
            broker.create(0, 1, 1, 1, 0);
            boolean may = (set & (READ | DENY)) == READ;
            CHECKS.due("with " + set, broker.whyDenied(1, 12), may ? FINE : FORBIDDEN);
            CHECKS.due("given with " + set, broker.ask("request", 1, 12), may ? 0 : NONE);
            CHECKS.due("elsewhere", broker.whyDenied(1, 123), FORBIDDEN);
            CHECKS.due("the root", broker.whyDenied(0, 123), FINE);
        }
    }

    /** Promise 17: 'Either way a token that is alive and has a number of uses, of which some are left, has one
     * less then.' */
    private static void aRequestTakesAUseEitherWay() {
        for (int path = 1; path <= 4; path++) {
            int[] left = {NONE, NONE, 2, 0, NONE, 2, 0};
            for (int token = 0; token <= 6; token++) {
                Broker broker = Checks.after(CredentialEdgesTest::reasons);
                CHECKS.due("ahead", broker.usesLeft(token), left[token]);
                broker.request(token, path);
                CHECKS.due(token + " at " + path, broker.usesLeft(token), token == 2 ? 1 : left[token]);
                broker.request(token, path);
                CHECKS.due(token + " twice at " + path, broker.usesLeft(token), token == 2 ? 0 : left[token]);
                broker.request(token, path);
                CHECKS.due(token + " thrice at " + path, broker.usesLeft(token), token == 2 ? 0 : left[token]);
            }
        }
        Broker broker = new Broker();
        broker.policy();
        broker.allow(0, 1, true, READ);
        broker.mount(1, 1, 1);
        broker.create(0, 1, 1, 1, 1);
        CHECKS.due("the last use is one", broker.ask("request", 1, 1), 0);
        CHECKS.due("and was the last", broker.ask("request", 1, 1), NONE);
        CHECKS.due("the credential works on", broker.works(0), true);
        CHECKS.due("so does the token", broker.isAlive(1), true);
    }

    /** Promise 17: 'the number of the credential, from 0 in the order in which they are given; NONE if it is
     * denied'. */
    private static void credentialsAreNumberedFrom0() {
        Broker broker = new Broker();
        broker.mount(1, 1, 1);
        CHECKS.due("denied", broker.ask("request", 0, 2), NONE);
        CHECKS.due("the first", broker.ask("request", 0, 1), 0);
        CHECKS.due("denied", broker.ask("request", 0, 2), NONE);
        CHECKS.due("refused", broker.ask("request", 0, 9), BAD_ARGUMENT);
        CHECKS.due("refused", broker.ask("request", 1, 1), BAD_NUMBER);
        CHECKS.due("the second", broker.ask("request", 0, 1), 1);
        broker.revokeBelow(1);
        CHECKS.due("behind a revocation", broker.ask("request", 0, 1), 2);
        broker.pass(1);
        CHECKS.due("behind an end", broker.ask("request", 0, 1), 3);
        for (int credential = 4; credential < 43; credential++) {
            CHECKS.due("the next", broker.ask("request", 0, 1), credential);
        }
        CHECKS.due("refused", broker.ask("request", 0, 1), BAD_STATE);
        broker.pass(1);
        CHECKS.due("behind a refusal", broker.ask("request", 0, 1), 43);
    }

    /** Promise 17: 'GRANTED is written with the token as the subject and the number of the credential as the
     * detail'. */
    private static void requestWritesGrantedOrDenied() {
        for (int token : new int[] {0, 1, 7}) {
            Broker broker = Checks.after(Pasts::lived);
            CHECKS.due("given", broker.ask("request", token, 1), 7);
            CHECKS.entry("given", broker, 20, SecretBroker.GRANTED, token, 7);
            CHECKS.due("denied", broker.ask("request", token, 8), NONE);
            CHECKS.entry("denied", broker, 21, SecretBroker.DENIED, token, UNMOUNTED);
        }
    }

    /** Promise 17: 'Throws IndexOutOfBoundsException if there never was such a token'. */
    private static void requestNeedsATokenThatThereWas() {
        CHECKS.refused(Pasts::nothing, BAD_NUMBER, "request", 1, 1);
        for (int token : new int[] {-1, 9, 10, 513, LEAST, MOST}) {
            CHECKS.refused(Pasts::lived, BAD_NUMBER, "request", token, 1);
        }
        CHECKS.refused(Pasts::full, BAD_NUMBER, "request", 30, 8);
        CHECKS.answered(Pasts::lived, NONE, "request", 8, 1);
        CHECKS.answered(Pasts::full, NONE, "request", 29, 8);
    }

    /** Promise 17: 'Throws IllegalArgumentException if path is none'; PathEdgesTest has all the numbers. */
    private static void requestNeedsAPath() {
        for (int path : NO_PATHS) {
            for (int token : new int[] {0, 2, 3, 8}) {
                CHECKS.refused(Pasts::lived, BAD_ARGUMENT, "request", token, path);
            }
        }
    }

    /** Promise 17: 'Throws IllegalStateException if it would be given, and 40 credentials are alive'. */
    private static void fortyCredentialsAndNoMore() {
        String[] calls = {"revokeBelow", "pass", "revoke", "revokeAlone"};
        int[] arguments = {2, 5, 1, 1};
        int[] due = {1, 1, 2, 2};
        for (int i = 0; i < calls.length; i++) {
            Broker broker = new Broker();
            broker.policy();
            broker.allow(0, 9, true, READ);
            broker.mount(1, 100, 100);
            broker.mount(2, 5, 5);
            broker.create(0, 1, 100, 100, 0);
            broker.create(0, 1, 100, 100, 0);
            broker.request(1, 2);
            for (int credential = 1; credential < 40; credential++) {
                CHECKS.due("credential " + credential, broker.ask("request", credential % 2 * 2, 1), credential);
            }
            CHECKS.due("forty", broker.credentials(), 40);
            for (int token = 0; token < 3; token++) {
                CHECKS.due("one more", broker.ask("request", token, 1 + token % 2), BAD_STATE);
            }
            CHECKS.due(calls[i], broker.ask(calls[i], arguments[i]), due[i]);
            CHECKS.due("room for one", broker.ask("request", 2, 1), 40);
            CHECKS.due("and no more", broker.ask("request", 2, 1), BAD_STATE);
        }
        CHECKS.refused(Pasts::full, BAD_STATE, "request", 0, 1);
        CHECKS.refused(Pasts::full, BAD_STATE, "request", 1, 66);
        CHECKS.refused(Pasts::full, BAD_STATE, "request", 29, 2);
    }

    /** Promise 17: 'if it would be given': what is denied is denied at 40, too, and takes its use. */
    private static void atFortyDenialsGoOn() {
        int[][] due = {{29, 8, UNMOUNTED}, {29, 2, FINE}, {0, 7, UNMOUNTED}};
        for (int[] its : due) {
            CHECKS.answered(Pasts::full, its[2], "whyDenied", its[0], its[1]);
        }
        Broker broker = Checks.after(Pasts::full);
        for (int left = 3; left >= 0; left--) {
            CHECKS.due("denied", broker.ask("request", 29, 8), NONE);
            CHECKS.entry("denied", broker, 73 - left, SecretBroker.DENIED, 29, UNMOUNTED);
            CHECKS.due("takes a use", broker.usesLeft(29), left);
        }
        CHECKS.due("used up", broker.ask("request", 29, 2), NONE);
        CHECKS.entry("used up", broker, 74, SecretBroker.DENIED, 29, USED_UP);
        broker.revokeAlone(28);
        broker.request(0, 1);
        CHECKS.due("forty", broker.credentials(), 40);
        CHECKS.due("ended", broker.ask("request", 28, 1), NONE);
        CHECKS.entry("ended", broker, 77, SecretBroker.DENIED, 28, ENDED);
        broker.allow(0, 9, true, DENY);
        CHECKS.due("forbidden", broker.ask("request", 27, 1), NONE);
        CHECKS.entry("forbidden", broker, 78, SecretBroker.DENIED, 27, FORBIDDEN);
    }

    /** Promise 18: 'Throws IndexOutOfBoundsException if there never was such a token'. */
    private static void whyDeniedNeedsATokenThatThereWas() {
        CHECKS.refused(Pasts::nothing, BAD_NUMBER, "whyDenied", 1, 1);
        for (int token : new int[] {-1, 9, 10, 513, LEAST, MOST}) {
            CHECKS.refused(Pasts::lived, BAD_NUMBER, "whyDenied", token, 1);
        }
        CHECKS.refused(Pasts::full, BAD_NUMBER, "whyDenied", 30, 1);
        CHECKS.answered(Pasts::lived, ENDED, "whyDenied", 8, 1);
        CHECKS.answered(Pasts::lived, FINE, "whyDenied", 0, 1);
    }

    /** Promise 18: 'Throws IllegalArgumentException if path is none'. */
    private static void whyDeniedNeedsAPath() {
        for (int path : NO_PATHS) {
            for (int token : new int[] {0, 8}) {
                CHECKS.refused(Pasts::lived, BAD_ARGUMENT, "whyDenied", token, path);
            }
        }
    }

    /** Terms: 'alive from its beginning on, until its end has come (the time is not less than its end)'. */
    private static void worksUntilTheEndHasCome() {
        for (int beginning : new int[] {0, 7}) {
            for (int minutes : new int[] {1, 2, 10, 999, 1000}) {
                for (int over = -1; over <= 2; over++) {
                    Broker broker = new Broker();
                    broker.mount(1, minutes, 5000);
                    if (beginning > 0) {
                        broker.pass(beginning);
                    }
                    broker.request(0, 1);
                    CHECKS.due("works from the beginning on", broker.works(0), true);
                    CHECKS.due("its end", broker.endOfCredential(0), beginning + minutes);
                    for (int rest = minutes + over; rest > 0; rest -= 1000) {
                        broker.pass(Math.min(rest, 1000));
                    }
                    CHECKS.due("works " + over + " behind " + minutes, broker.works(0), over < 0);
                    CHECKS.due("credentials then", broker.credentials(), over < 0 ? 1 : 0);
                }
            }
        }
    }

    /** Terms: 'those that the mount has as the credential is given', the mount that counts then. */
    private static void minutesOfTheMountAsItIsGiven() {
        Broker broker = new Broker();
        broker.mount(1, 10, 20);
        broker.request(0, 12);
        broker.mount(12, 30, 40);
        broker.request(0, 12);
        broker.pass(3);
        broker.mount(12, 5, 5);
        broker.request(0, 12);
        int[] ends = {10, 30, 8};
        int[] bounds = {20, 40, 8};
        for (int credential = 0; credential < 3; credential++) {
            CHECKS.due("end of " + credential, broker.endOfCredential(credential), ends[credential]);
            CHECKS.due("bound of " + credential, broker.ask("renewCredential", credential, 1000),
                    bounds[credential]);
        }
    }

    /** Terms: 'its end becomes the time plus these minutes, but not later than the beginning plus the bound,
     * and not earlier than it is'. */
    private static void renewGoesNoFurtherThanTheBound() {
        for (int bound : new int[] {10, 11, 25}) {
            for (int passed = 0; passed < 10; passed++) {
                int[] longer = {1, 2, 9 - passed, 10 - passed, 11 - passed, bound - passed - 1, bound - passed,
                    bound - passed + 1, 999, 1000};
                for (int minutes : longer) {
                    if (minutes > 0) {
                        renew(bound, passed, minutes);
                    }
                }
            }
        }
    }

    private static void renew(int bound, int passed, int minutes) {
        Broker broker = new Broker();
        broker.pass(7);
        broker.mount(1, 10, bound);
        broker.request(0, 1);
        if (passed > 0) {
            broker.pass(passed);
        }
        int behind = passed + minutes < 10 ? 10 : passed + minutes > bound ? bound : passed + minutes;
        CHECKS.due("renewed by " + minutes, broker.ask("renewCredential", 0, minutes), 7 + behind);
        CHECKS.due("its end", broker.endOfCredential(0), 7 + behind);
        if (behind - passed > 1) {
            CHECKS.due("not yet", broker.ask("pass", behind - passed - 1), 0);
        }
        CHECKS.due("works ahead of it", broker.works(0), true);
        CHECKS.due("ends then", broker.ask("pass", 1), 1);
        CHECKS.due("works no more", broker.works(0), false);
    }

    /** Promise 5: 'the bound: minutes to 5000', reached to the minute, and none goes behind it. */
    private static void renewGoesUpTo5000() {
        for (int bound : new int[] {4999, 5000}) {
            Broker broker = new Broker();
            broker.pass(3);
            broker.mount(1, 1000, bound);
            broker.request(0, 1);
            for (int i = 1; i <= 4; i++) {
                broker.pass(999);
                CHECKS.due("by 1000", broker.ask("renewCredential", 0, 1000), 3 + 999 * i + 1000);
            }
            broker.pass(999);
            CHECKS.due("up to the bound", broker.ask("renewCredential", 0, 1000), 3 + bound);
            CHECKS.due("ahead of it", broker.ask("pass", bound - 4995 - 1), 0);
            CHECKS.due("in the last minute", broker.ask("renewCredential", 0, 1000), 3 + bound);
            CHECKS.due("at it", broker.ask("pass", 1), 1);
            CHECKS.due("behind it", broker.ask("renewCredential", 0, 1000), BAD_STATE);
        }
    }

    /** Promise 19: 'writes RENEWED with its token as the subject and its end as the detail'. */
    private static void renewWritesRenewedWithItsToken() {
        int[][] due = {{0, 1, 6, 11}, {0, 1, 1, 10}, {1, 2, 1000, 20}, {2, 3, 25, 30}, {4, 0, 996, 1001},
            {5, 7, 5, 10}};
        for (int[] its : due) {
            Broker broker = Checks.after(Pasts::lived);
            CHECKS.due("renewed", broker.ask("renewCredential", its[0], its[2]), its[3]);
            CHECKS.entry("renewed " + its[0], broker, 20, SecretBroker.RENEWED, its[1], its[3]);
        }
    }

    /** Promise 19: 'Throws IndexOutOfBoundsException if there never was such a credential'. */
    private static void renewNeedsACredentialThatThereWas() {
        CHECKS.refused(Pasts::nothing, BAD_NUMBER, "renewCredential", 0, 1);
        for (int credential : new int[] {-1, 7, 8, 512, 513, LEAST, MOST}) {
            CHECKS.refused(Pasts::lived, BAD_NUMBER, "renewCredential", credential, 1);
        }
        CHECKS.refused(Pasts::full, BAD_NUMBER, "renewCredential", 40, 1);
        CHECKS.answered(Pasts::full, 400, "renewCredential", 39, 1);
        CHECKS.answered(Pasts::full, 100, "renewCredential", 0, 1);
    }

    /** Promise 19: 'minutes: 1 to 1000'. */
    private static void renewNeeds1To1000Minutes() {
        for (int minutes : NO_MINUTES) {
            CHECKS.refused(Pasts::lived, BAD_ARGUMENT, "renewCredential", 4, minutes);
        }
        CHECKS.answered(Pasts::lived, 1000, "renewCredential", 4, 1);
        CHECKS.answered(Pasts::lived, 1004, "renewCredential", 4, 999);
        CHECKS.answered(Pasts::lived, 1005, "renewCredential", 4, 1000);
    }

    /** Promise 19: 'Throws IllegalStateException if it is not alive', however it ceased. */
    private static void renewNeedsOneThatIsAlive() {
        for (int credential : new int[] {3, 6}) {
            CHECKS.refused(Pasts::lived, BAD_STATE, "renewCredential", credential, 1);
            CHECKS.refused(Pasts::lived, BAD_STATE, "renewCredential", credential, 1000);
        }
        Broker broker = Checks.after(Pasts::lived);
        broker.pass(4);
        CHECKS.due("in the last minute", broker.ask("renewCredential", 0, 1), 10);
        CHECKS.due("in the last minute, longer", broker.ask("renewCredential", 2, 2), 11);
        broker.pass(1);
        CHECKS.due("at the end", broker.ask("renewCredential", 0, 1), BAD_STATE);
        CHECKS.due("ahead of it", broker.ask("renewCredential", 2, 1), 11);
        broker.revoke(2);
        CHECKS.due("its token below a revoked one", broker.ask("renewCredential", 2, 1), BAD_STATE);
        CHECKS.due("its token revoked", broker.ask("renewCredential", 1, 1), BAD_STATE);
        broker.request(1, 1);
        broker.revokeAlone(1);
        CHECKS.due("its token revoked alone", broker.ask("renewCredential", 7, 1), BAD_STATE);
    }

    /** Promise 20: 'Revokes all credentials that are alive at paths below a path', 'Returns how many.' */
    private static void revokeBelowCountsThoseAlive() {
        int[] paths = {1, 12, 11, 2, 22, 3, 111111, 121};
        int[] due = {4, 1, 1, 1, 0, 0, 0, 0};
        for (int i = 0; i < paths.length; i++) {
            Broker broker = Checks.after(Pasts::lived);
            CHECKS.due("below " + paths[i], broker.ask("revokeBelow", paths[i]), due[i]);
            CHECKS.due("left", broker.credentials(), 5 - due[i]);
            CHECKS.due("none a second time", broker.ask("revokeBelow", paths[i]), 0);
            CHECKS.due("tokens", broker.tokens(), 5);
            boolean[] works = {paths[i] != 1, paths[i] != 1 && paths[i] != 12, paths[i] != 1, false,
                paths[i] != 2, paths[i] != 1 && paths[i] != 11, false};
            for (int credential = 0; credential < 7; credential++) {
                CHECKS.due(credential + " works, " + paths[i] + " revoked", broker.works(credential),
                        works[credential]);
            }
        }
        Broker full = new Broker();
        full.mount(1, 9, 9);
        for (int i = 0; i < 40; i++) {
            full.request(0, 111111);
        }
        CHECKS.due("none below a longer one", full.ask("revokeBelow", 111112), 0);
        CHECKS.due("all forty", full.ask("revokeBelow", 111111), 40);
        CHECKS.due("none of a new broker", new Broker().ask("revokeBelow", 1), 0);
    }

    /** Promise 20: 'writes REVOKED with the root as the subject and what is returned as the detail'. */
    private static void revokeBelowWritesRevokedWithTheRoot() {
        int[][] due = {{1, 4}, {11, 1}, {3, 0}, {22, 0}};
        for (int[] its : due) {
            Broker broker = Checks.after(Pasts::lived);
            broker.revokeBelow(its[0]);
            CHECKS.entry("below " + its[0], broker, 20, SecretBroker.REVOKED, 0, its[1]);
        }
    }

    /** Promise 20: 'Throws IllegalArgumentException if path is none'. */
    private static void revokeBelowNeedsAPath() {
        for (int path : NO_PATHS) {
            CHECKS.refused(Pasts::lived, BAD_ARGUMENT, "revokeBelow", path);
        }
        CHECKS.refused(Pasts::nothing, BAD_ARGUMENT, "revokeBelow", 0);
    }

    /** Promises 21 and 22: 'Throws IndexOutOfBoundsException if there never was such a credential'. */
    private static void questionsNeedACredentialThatThereWas() {
        for (String call : new String[] {"works", "endOfCredential"}) {
            CHECKS.refused(Pasts::nothing, BAD_NUMBER, call, 0);
            CHECKS.refused(Pasts::nothing, BAD_NUMBER, call, -1);
            for (int credential : new int[] {-1, 7, 8, 512, 513, LEAST, MOST}) {
                CHECKS.refused(Pasts::lived, BAD_NUMBER, call, credential);
            }
            CHECKS.refused(Pasts::full, BAD_NUMBER, call, 40);
        }
    }

    /** Promise 21: 'Tells whether a credential works: whether it is alive.' */
    private static void worksTells() {
        for (int credential = 0; credential < 7; credential++) {
            CHECKS.answered(Pasts::lived, credential != 3 && credential != 6, "works", credential);
        }
        CHECKS.answered(Pasts::full, true, "works", 0);
        CHECKS.answered(Pasts::full, true, "works", 39);
    }

    /** Promise 22: 'alive or not, whether something else has ended it earlier or not'. */
    private static void endOfTheDead() {
        int[] due = {10, 20, 10, 20, 1000, 10, 1000};
        for (int credential = 0; credential < due.length; credential++) {
            CHECKS.answered(Pasts::lived, due[credential], "endOfCredential", credential);
        }
        Broker broker = Checks.after(Pasts::lived);
        broker.renewCredential(0, 20);
        broker.renewCredential(5, 7);
        broker.revoke(1);
        broker.pass(100);
        CHECKS.due("renewed, then revoked with its token", broker.endOfCredential(0), 25);
        CHECKS.due("revoked with its token", broker.endOfCredential(1), 20);
        CHECKS.due("renewed, then by its end", broker.endOfCredential(5), 12);
        CHECKS.due("alive", broker.endOfCredential(4), 1000);
    }

    /** Promise 23: 'how many credentials are alive'. */
    private static void credentialsFrom0To40() {
        CHECKS.answered(Pasts::nothing, 0, "credentials");
        CHECKS.answered(Pasts::lived, 5, "credentials");
        CHECKS.answered(Pasts::full, 40, "credentials");
        Broker broker = Checks.after(Pasts::full);
        broker.pass(99);
        CHECKS.due("just ahead", broker.credentials(), 40);
        broker.pass(1);
        CHECKS.due("those at 1 have ended", broker.credentials(), 33);
        broker.pass(1);
        CHECKS.due("and those of all tokens", broker.credentials(), 0);
    }

    /** Promise 24: 'how many credentials of a token are alive', 'those of tokens below it not counted'. */
    private static void credentialsOfCountsNoneBelow() {
        int[] due = {1, 1, 1, 1, 0, 0, 0, 1, 0};
        for (int token = 0; token < due.length; token++) {
            CHECKS.answered(Pasts::lived, due[token], "credentialsOf", token);
        }
        for (int token = 0; token < 30; token++) {
            CHECKS.answered(Pasts::full, token < 10 ? 2 : 1, "credentialsOf", token);
        }
        Broker broker = new Broker();
        broker.mount(1, 9, 9);
        for (int i = 1; i <= 40; i++) {
            broker.request(0, 1);
            CHECKS.due("of the root", broker.credentialsOf(0), i);
        }
        broker.pass(9);
        CHECKS.due("none at last", broker.credentialsOf(0), 0);
    }
}
