/** Promises 17 to 24: credentials. */
public final class CredentialTest {
    private static final Checks CHECKS = new Checks();
    private static final int[] NO_PATHS = {0, -1, 9, 19, 91, 10, 911111, 119111, 111119, 1000000,
        1111111, 1234567, Integer.MIN_VALUE, Integer.MAX_VALUE};

    public static void main(String[] args) {
        requesting();
        reasons();
        reasonsInOrder();
        fortyCredentials();
        renewing();
        revokingBelow();
        ending();
        endingWithTheToken();
        counting();
        fromBeginningToEnd();
        CHECKS.end("CredentialTest");
    }

    /** The token 1 may read at 1 and list at 2, and there are mounts at 1, 12 and 2. */
    private static Broker broker() {
        Broker broker = new Broker();
        broker.policy();
        broker.allow(0, 1, true, SecretBroker.READ);
        broker.allow(0, 2, true, SecretBroker.LIST | SecretBroker.WRITE);
        broker.mount(1, 10, 30);
        broker.mount(12, 20, 20);
        broker.mount(2, 30, 5000);
        broker.create(0, 1, 1000, 5000, 0);
        return broker;
    }

    private static void requesting() {
        Broker broker = broker();
        CHECKS.due("first", broker.request(1, 11), 0);
        CHECKS.entry("first", broker, 2, SecretBroker.GRANTED, 1, 0);
        CHECKS.due("second", broker.request(0, 2), 1);
        CHECKS.entry("second", broker, 3, SecretBroker.GRANTED, 0, 1);
        CHECKS.due("forbidden", broker.request(1, 2), -1);
        CHECKS.entry("forbidden", broker, 4, SecretBroker.DENIED, 1, SecretBroker.FORBIDDEN);
        CHECKS.due("unmounted", broker.request(0, 3), -1);
        CHECKS.entry("unmounted", broker, 5, SecretBroker.DENIED, 0, SecretBroker.UNMOUNTED);
        broker.pass(4);
        CHECKS.due("third", broker.request(1, 122), 2);
        CHECKS.due("end of the first", broker.endOfCredential(0), 10);
        CHECKS.due("end of the second", broker.endOfCredential(1), 30);
        CHECKS.due("end of the third", broker.endOfCredential(2), 24);
        broker.revoke(1);
        CHECKS.due("ended", broker.request(1, 1), -1);
        CHECKS.entry("ended", broker, 8, SecretBroker.DENIED, 1, SecretBroker.ENDED);
        CHECKS.due("no number twice", broker.request(0, 1), 3);
        broker.create(0, 1, 9, 9, 1);
        broker.request(2, 1);
        CHECKS.due("used up", broker.request(2, 1), -1);
        CHECKS.entry("used up", broker, 12, SecretBroker.DENIED, 2, SecretBroker.USED_UP);
        CHECKS.due("the last one is given", broker.works(4), true);
    }

    private static void why(Broker broker, int token, int path, int reason) {
        CHECKS.due("whyDenied(" + token + ", " + path + ")", broker.whyDenied(token, path), reason);
    }

    private static void reasons() {
        Broker broker = broker();
        why(broker, 1, 1, SecretBroker.FINE);
        why(broker, 1, 123456, SecretBroker.FINE);
        why(broker, 1, 2, SecretBroker.FORBIDDEN);
        why(broker, 1, 3, SecretBroker.UNMOUNTED);
        why(broker, 0, 2, SecretBroker.FINE);
        why(broker, 0, 3, SecretBroker.UNMOUNTED);
        broker.allow(0, 1, true, SecretBroker.READ | SecretBroker.DENY);
        why(broker, 1, 1, SecretBroker.FORBIDDEN);
        broker.allow(0, 2, true, SecretBroker.READ);
        why(broker, 1, 2, SecretBroker.FINE);
        broker.mount(3, 1, 1);
        why(broker, 1, 3, SecretBroker.FORBIDDEN);
        broker.clear(0);
        why(broker, 1, 2, SecretBroker.FORBIDDEN);
        CHECKS.due("asking writes nothing", broker.entries(), 1);
    }

    private static void reasonsInOrder() {
        Broker broker = broker();
        broker.create(0, 1, 9, 9, 1);
        broker.create(0, 1, 9, 9, 1);
        why(broker, 2, 3, SecretBroker.UNMOUNTED);
        why(broker, 2, 2, SecretBroker.FORBIDDEN);
        broker.request(2, 1);
        broker.request(3, 1);
        why(broker, 2, 1, SecretBroker.USED_UP);
        why(broker, 2, 2, SecretBroker.USED_UP);
        why(broker, 2, 3, SecretBroker.USED_UP);
        broker.revoke(2);
        why(broker, 2, 1, SecretBroker.ENDED);
        why(broker, 2, 3, SecretBroker.ENDED);
        broker.pass(8);
        why(broker, 3, 3, SecretBroker.USED_UP);
        broker.pass(1);
        why(broker, 3, 3, SecretBroker.ENDED);
    }

    private static void fortyCredentials() {
        Broker broker = broker();
        broker.create(0, 1, 900, 900, 2);
        for (int i = 0; i < 40; i++) {
            CHECKS.due("credential " + i, broker.request(i % 2, i % 4 < 2 ? 11 : 12), i);
        }
        CHECKS.due("forty", broker.credentials(), 40);
        CHECKS.throwing("a forty-first", Checks.BAD_STATE, () -> broker.request(0, 1));
        CHECKS.throwing("one with uses", Checks.BAD_STATE, () -> broker.request(2, 1));
        CHECKS.throwing("nowhere", Checks.BAD_ARGUMENT, () -> broker.request(0, 9));
        why(broker, 2, 1, SecretBroker.FINE);
        CHECKS.due("denied at forty", broker.request(2, 2), -1);
        CHECKS.entry("denied at forty", broker, 43, SecretBroker.DENIED, 2, SecretBroker.FORBIDDEN);
        CHECKS.due("took a use", broker.usesLeft(2), 1);
        CHECKS.due("half end", broker.pass(10), 20);
        CHECKS.due("room again", broker.request(2, 1), 40);
        CHECKS.due("took the other", broker.usesLeft(2), 0);
        CHECKS.due("21", broker.credentials(), 21);
    }

    private static void renewing() {
        Broker broker = broker();
        broker.request(0, 2);
        broker.request(1, 1);
        CHECKS.due("not earlier", broker.renewCredential(1, 3), 10);
        CHECKS.entry("not earlier", broker, 4, SecretBroker.RENEWED, 1, 10);
        CHECKS.due("by one minute", broker.renewCredential(1, 1), 10);
        CHECKS.entry("by one minute", broker, 5, SecretBroker.RENEWED, 1, 10);
        CHECKS.due("longer", broker.renewCredential(1, 12), 12);
        CHECKS.entry("longer", broker, 6, SecretBroker.RENEWED, 1, 12);
        broker.pass(11);
        CHECKS.due("from the time on", broker.renewCredential(1, 8), 19);
        CHECKS.due("to the bound", broker.renewCredential(1, 20), 30);
        CHECKS.due("the other keeps its end", broker.endOfCredential(0), 30);
        CHECKS.due("the most", broker.renewCredential(0, 1000), 1011);
        CHECKS.entry("the most", broker, 9, SecretBroker.RENEWED, 0, 1011);
        CHECKS.due("its end", broker.endOfCredential(0), 1011);
        CHECKS.due("till the bound", broker.pass(18), 0);
        CHECKS.due("and no longer", broker.pass(1), 1);
    }

    private static void revokingBelow() {
        Broker broker = broker();
        broker.request(0, 12);
        broker.request(1, 123);
        broker.request(1, 1);
        broker.request(1, 13);
        broker.request(0, 2);
        broker.request(0, 212);
        for (int path : NO_PATHS) {
            CHECKS.throwing("below " + path, Checks.BAD_ARGUMENT, () -> broker.revokeBelow(path));
        }
        CHECKS.due("two", broker.revokeBelow(12), 2);
        CHECKS.entry("two", broker, 8, SecretBroker.REVOKED, 0, 2);
        CHECKS.due("itself", broker.works(0), false);
        CHECKS.due("below it", broker.works(1), false);
        CHECKS.due("above it", broker.works(2), true);
        CHECKS.due("beside it", broker.works(3), true);
        CHECKS.due("elsewhere", broker.works(5), true);
        CHECKS.due("none", broker.revokeBelow(12), 0);
        CHECKS.entry("none", broker, 9, SecretBroker.REVOKED, 0, 0);
        CHECKS.due("none so deep", broker.revokeBelow(133333), 0);
        CHECKS.due("two more", broker.revokeBelow(1), 2);
        CHECKS.due("what is left", broker.credentials(), 2);
        CHECKS.due("tokens go on", broker.tokens(), 2);
        CHECKS.due("one", broker.revokeBelow(21), 1);
        CHECKS.due("its end is told", broker.endOfCredential(5), 30);
    }

    private static void ending() {
        Broker broker = broker();
        broker.create(1, 1, 15, 15, 0);
        broker.request(2, 1);
        broker.request(2, 12);
        broker.request(1, 12);
        broker.pass(9);
        CHECKS.due("works", broker.works(0), true);
        broker.pass(1);
        CHECKS.due("ended", broker.works(0), false);
        CHECKS.due("end of the ended", broker.endOfCredential(0), 10);
        CHECKS.due("works longer", broker.works(1), true);
        CHECKS.due("its token ends", broker.pass(5), 2);
        CHECKS.due("and it with it", broker.works(1), false);
        CHECKS.due("its own end is told", broker.endOfCredential(1), 20);
        CHECKS.due("the parent's works", broker.works(2), true);
        for (int credential : new int[] {-1, 3, 512, 513, Integer.MIN_VALUE, Integer.MAX_VALUE}) {
            CHECKS.throwing("works " + credential, Checks.BAD_NUMBER, () -> broker.works(credential));
            CHECKS.throwing("end of " + credential, Checks.BAD_NUMBER,
                    () -> broker.endOfCredential(credential));
        }
    }

    private static void endingWithTheToken() {
        Broker revoked = broker();
        revoked.request(1, 1);
        revoked.revoke(1);
        CHECKS.due("token revoked", revoked.works(0), false);
        Broker alone = broker();
        alone.request(1, 1);
        alone.revokeAlone(1);
        CHECKS.due("token revoked alone", alone.works(0), false);
        Broker ended = broker();
        ended.create(1, 1, 9, 9, 0);
        ended.request(2, 12);
        CHECKS.due("both end", ended.pass(9), 2);
        CHECKS.due("token ended", ended.works(0), false);
        Broker below = broker();
        below.create(1, 1, 9, 9, 0);
        below.request(2, 12);
        CHECKS.due("three cease", below.revoke(1), 3);
        CHECKS.due("token below a revoked one", below.works(0), false);
    }

    private static void counting() {
        Broker broker = broker();
        broker.create(1, 1, 500, 500, 0);
        broker.request(1, 1);
        broker.request(2, 1);
        broker.request(2, 12);
        broker.request(0, 2);
        CHECKS.due("all", broker.credentials(), 4);
        CHECKS.due("of the root", broker.credentialsOf(0), 1);
        CHECKS.due("of 1", broker.credentialsOf(1), 1);
        CHECKS.due("of 2", broker.credentialsOf(2), 2);
        broker.pass(10);
        CHECKS.due("all later", broker.credentials(), 2);
        CHECKS.due("of 1 later", broker.credentialsOf(1), 0);
        CHECKS.due("of 2 later", broker.credentialsOf(2), 1);
        broker.revoke(1);
        CHECKS.due("all at last", broker.credentials(), 1);
        CHECKS.due("of 2 at last", broker.credentialsOf(2), 0);
        CHECKS.throwing("of none", Checks.BAD_NUMBER, () -> broker.credentialsOf(3));
    }

    private static void fromBeginningToEnd() {
        Broker broker = broker();
        for (int i = 0; i < 120; i++) {
            CHECKS.due("given anew " + i, broker.request(0, 1), i);
            if (i % 40 == 39) {
                CHECKS.due("all forty end", broker.pass(10), 40);
            }
        }
        CHECKS.due("none is left", broker.credentials(), 0);
        CHECKS.due("the first is told", broker.endOfCredential(0), 10);
        CHECKS.due("the last is told", broker.endOfCredential(119), 30);
    }
}
