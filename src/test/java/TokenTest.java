/** Promises 6 to 15: tokens. */
public final class TokenTest {
    private static final Checks CHECKS = new Checks();

    public static void main(String[] args) {
        creating();
        policiesOfParents();
        thirtyTokens();
        renewing();
        revoking();
        revokingAlone();
        parentsOfTheRevoked();
        ends();
        uses();
        tokensBelow();
        CHECKS.end("TokenTest");
    }

    private static void alive(String what, Broker broker, int... tokens) {
        StringBuilder got = new StringBuilder();
        for (int token = 0; Checks.outcome(aliveCall(broker, token)) instanceof Boolean; token++) {
            got.append(broker.isAlive(token) ? " " + token : "");
        }
        StringBuilder want = new StringBuilder();
        for (int token : tokens) {
            want.append(" ").append(token);
        }
        CHECKS.due(what + ", alive", got.toString(), want.toString());
        CHECKS.due(what + ", tokens", broker.tokens(), tokens.length);
    }

    private static Checks.Call aliveCall(Broker broker, int token) {
        return () -> broker.isAlive(token);
    }

    private static void creating() {
        Broker broker = new Broker();
        broker.policy();
        CHECKS.due("first", broker.create(0, 1, 1, 1, 100), 1);
        CHECKS.entry("first", broker, 1, SecretBroker.CREATED, 0, 1);
        CHECKS.due("second", broker.create(1, 0, 1000, 5000, 0), 2);
        CHECKS.entry("second", broker, 2, SecretBroker.CREATED, 1, 2);
        CHECKS.due("parent", broker.parentOf(1), 0);
        CHECKS.due("parent of second", broker.parentOf(2), 1);
        CHECKS.due("end", broker.endOf(1), 1);
        CHECKS.due("end of second", broker.endOf(2), 1000);
        CHECKS.due("uses", broker.usesLeft(1), 100);
        CHECKS.due("uses of second", broker.usesLeft(2), -1);
        alive("two made", broker, 0, 1, 2);
        broker.revoke(1);
        CHECKS.due("no number again", broker.create(0, 0, 1000, 1000, 1), 3);
        broker.pass(7);
        CHECKS.due("begins later", broker.create(0, 0, 3, 4, 1), 4);
        CHECKS.due("ends later", broker.endOf(4), 10);
        CHECKS.due("bound from the beginning", broker.renew(4, 9), 11);
    }

    private static void policiesOfParents() {
        Broker broker = new Broker();
        CHECKS.due("no policies yet", broker.create(0, 0, 9, 9, 0), 1);
        CHECKS.throwing("policy 0 not yet", Checks.BAD_ARGUMENT, () -> broker.create(0, 1, 9, 9, 0));
        for (int i = 0; i < 8; i++) {
            broker.policy();
        }
        CHECKS.due("all", broker.create(0, 255, 9, 9, 0), 2);
        CHECKS.due("some", broker.create(2, 165, 9, 9, 0), 3);
        CHECKS.due("the same", broker.create(3, 165, 9, 9, 0), 4);
        CHECKS.due("fewer", broker.create(4, 160, 9, 9, 0), 5);
        CHECKS.throwing("more", Checks.BAD_ARGUMENT, () -> broker.create(5, 161, 9, 9, 0));
        CHECKS.throwing("others", Checks.BAD_ARGUMENT, () -> broker.create(5, 2, 9, 9, 0));
        CHECKS.throwing("a parent without", Checks.BAD_ARGUMENT, () -> broker.create(1, 1, 9, 9, 0));
        broker.revokeAlone(4);
        CHECKS.throwing("a parent without parent", Checks.BAD_ARGUMENT,
                () -> broker.create(5, 165, 9, 9, 0));
        CHECKS.due("and what it has", broker.create(5, 32, 9, 9, 0), 6);
        broker.allow(5, 1, true, 5);
        CHECKS.due("has its policies", broker.capabilities(6, 1), 5);
        CHECKS.due("has not others", broker.capabilities(1, 1), 0);
    }

    private static void thirtyTokens() {
        Broker broker = new Broker();
        for (int token = 1; token < 30; token++) {
            CHECKS.due("token " + token, broker.create(token / 2, 0, token, 40, 0), token);
        }
        CHECKS.due("thirty", broker.tokens(), 30);
        CHECKS.throwing("a thirty-first", Checks.BAD_STATE, () -> broker.create(0, 0, 1, 1, 0));
        CHECKS.throwing("and wrong", Checks.BAD_ARGUMENT, () -> broker.create(0, 1, 1, 1, 0));
        broker.revokeAlone(29);
        CHECKS.due("room again", broker.create(0, 0, 1, 1, 0), 30);
        CHECKS.throwing("and full again", Checks.BAD_STATE, () -> broker.create(0, 0, 1, 1, 0));
        CHECKS.due("all have ended", broker.pass(30), 29);
        CHECKS.due("none but the root", broker.tokens(), 1);
        CHECKS.due("and again", broker.create(0, 0, 1, 1, 0), 31);
    }

    private static void renewing() {
        Broker broker = new Broker();
        broker.create(0, 0, 10, 25, 0);
        CHECKS.due("longer", broker.renew(1, 11), 11);
        CHECKS.entry("longer", broker, 2, SecretBroker.RENEWED, 1, 11);
        CHECKS.due("not earlier", broker.renew(1, 3), 11);
        CHECKS.entry("not earlier", broker, 3, SecretBroker.RENEWED, 1, 11);
        broker.pass(8);
        CHECKS.due("by one minute", broker.renew(1, 1), 11);
        CHECKS.due("from the time on", broker.renew(1, 10), 18);
        CHECKS.due("its end", broker.endOf(1), 18);
        CHECKS.due("up to the bound", broker.renew(1, 17), 25);
        CHECKS.due("no further", broker.renew(1, 1000), 25);
        CHECKS.entry("no further", broker, 7, SecretBroker.RENEWED, 1, 25);
        CHECKS.due("not ended", broker.pass(16), 0);
        CHECKS.due("ended", broker.pass(1), 1);
        broker.create(0, 0, 2, 5000, 0);
        CHECKS.due("the most", broker.renew(2, 1000), 1025);
    }

    /** 1 above 2 and 3, 3 above 4, 5 beside them; each token from 0 to 5 has a credential. */
    private static Broker tree() {
        Broker broker = new Broker();
        broker.policy();
        broker.allow(0, 9, true, SecretBroker.READ);
        broker.mount(1, 50, 60);
        int[] parents = {0, 1, 1, 3, 0};
        for (int parent : parents) {
            broker.create(parent, 1, 100, 200, 0);
        }
        for (int token = 0; token <= 5; token++) {
            broker.request(token, 1);
        }
        return broker;
    }

    private static void revoking() {
        Broker broker = tree();
        CHECKS.due("revoke a leaf", broker.revoke(2), 2);
        CHECKS.entry("revoke a leaf", broker, 12, SecretBroker.REVOKED, 2, 2);
        alive("revoke a leaf", broker, 0, 1, 3, 4, 5);
        CHECKS.due("revoke three", broker.revoke(1), 6);
        CHECKS.entry("revoke three", broker, 13, SecretBroker.REVOKED, 1, 6);
        alive("revoke three", broker, 0, 5);
        CHECKS.due("credentials left", broker.credentials(), 2);
        CHECKS.due("of the root", broker.works(0), true);
        CHECKS.due("of the other", broker.works(5), true);
        CHECKS.due("of those below", broker.works(4), false);
        CHECKS.due("the parent stays told", broker.parentOf(3), 1);
        Broker deep = tree();
        CHECKS.due("revoke the middle", deep.revoke(3), 4);
        alive("revoke the middle", deep, 0, 1, 2, 5);
        CHECKS.due("revoke without credentials", deep.revokeBelow(1), 4);
        CHECKS.due("tokens alone", deep.revoke(1), 2);
    }

    private static void revokingAlone() {
        Broker broker = tree();
        broker.request(1, 11);
        CHECKS.due("revoke alone", broker.revokeAlone(1), 3);
        CHECKS.entry("revoke alone", broker, 13, SecretBroker.REVOKED, 1, 3);
        alive("revoke alone", broker, 0, 2, 3, 4, 5);
        CHECKS.due("no parent", broker.parentOf(2), -1);
        CHECKS.due("nor the other child", broker.parentOf(3), -1);
        CHECKS.due("the grandchild has", broker.parentOf(4), 3);
        CHECKS.due("the revoked still has", broker.parentOf(1), 0);
        CHECKS.due("credentials below go on", broker.works(4), true);
        CHECKS.due("its own do not", broker.works(1), false);
        CHECKS.due("its own do not, either", broker.works(6), false);
        CHECKS.due("below the root", broker.below(0), 1);
        CHECKS.due("a freed one falls alone", broker.revoke(2), 2);
        CHECKS.due("a freed one with its child", broker.revoke(3), 4);
        alive("freed ones gone", broker, 0, 5);
        CHECKS.due("a leaf alone", broker.revokeAlone(5), 2);
        CHECKS.due("the root's works", broker.works(0), true);
    }

    private static void parentsOfTheRevoked() {
        Broker broker = tree();
        broker.revoke(2);
        broker.revokeAlone(1);
        CHECKS.due("not alive then", broker.parentOf(2), 1);
        CHECKS.due("alive then", broker.parentOf(3), -1);
        broker.revoke(3);
        CHECKS.due("later dead", broker.parentOf(3), -1);
        CHECKS.due("its child", broker.parentOf(4), 3);
        CHECKS.due("a child of the freed", broker.create(5, 1, 1, 1, 0), 6);
        CHECKS.due("its parent", broker.parentOf(6), 5);
    }

    private static void ends() {
        Broker broker = new Broker();
        broker.create(0, 0, 10, 10, 0);
        broker.create(1, 0, 30, 30, 0);
        broker.create(2, 0, 5, 5, 0);
        broker.create(0, 0, 10, 10, 0);
        broker.create(4, 0, 30, 30, 0);
        broker.revokeAlone(4);
        CHECKS.due("the short one ends", broker.pass(5), 1);
        alive("5", broker, 0, 1, 2, 5);
        CHECKS.due("not yet", broker.pass(4), 0);
        alive("9", broker, 0, 1, 2, 5);
        CHECKS.due("what is below ends too", broker.pass(1), 2);
        alive("10", broker, 0, 5);
        CHECKS.due("its end is told", broker.endOf(2), 30);
        CHECKS.due("the freed one ends by itself", broker.pass(20), 1);
        alive("30", broker, 0);
        CHECKS.due("end of the ended", broker.endOf(1), 10);
        CHECKS.due("end of the revoked", broker.endOf(4), 10);
        CHECKS.due("end of the root", broker.endOf(0), -1);
    }

    private static void uses() {
        Broker broker = new Broker();
        broker.policy();
        broker.allow(0, 1, true, SecretBroker.READ);
        broker.mount(1, 50, 60);
        broker.mount(2, 50, 60);
        broker.create(0, 1, 10, 10, 3);
        broker.create(0, 1, 10, 10, 0);
        broker.create(0, 1, 10, 10, 2);
        broker.request(1, 1);
        CHECKS.due("given", broker.usesLeft(1), 2);
        broker.request(1, 2);
        CHECKS.due("forbidden", broker.usesLeft(1), 1);
        broker.whyDenied(1, 1);
        broker.capabilities(1, 1);
        broker.renew(1, 5);
        broker.create(1, 1, 1, 1, 0);
        CHECKS.due("nothing else takes uses", broker.usesLeft(1), 1);
        broker.request(1, 3);
        CHECKS.due("unmounted", broker.usesLeft(1), 0);
        CHECKS.due("used up", broker.request(1, 1), -1);
        CHECKS.due("no fewer than 0", broker.usesLeft(1), 0);
        CHECKS.due("still alive", broker.isAlive(1), true);
        broker.request(2, 1);
        broker.request(2, 3);
        CHECKS.due("as often as one likes", broker.usesLeft(2), -1);
        broker.revoke(3);
        CHECKS.due("not alive", broker.request(3, 1), -1);
        CHECKS.due("takes none then", broker.usesLeft(3), 2);
        broker.request(0, 1);
        CHECKS.due("the root", broker.usesLeft(0), -1);
    }

    private static void tokensBelow() {
        Broker broker = tree();
        int[] due = {5, 3, 0, 1, 0, 0};
        for (int token = 0; token < due.length; token++) {
            CHECKS.due("below " + token, broker.below(token), due[token]);
        }
        broker.revoke(4);
        CHECKS.due("one less", broker.below(1), 2);
        broker.revokeAlone(1);
        CHECKS.due("freed ones are below none", broker.below(0), 1);
        CHECKS.due("not below the revoked", broker.below(1), 0);
        broker.create(3, 1, 1, 1, 0);
        CHECKS.due("a new one below a freed one", broker.below(3), 1);
        CHECKS.due("not below the root", broker.below(0), 1);
        CHECKS.due("tokens", broker.tokens(), 5);
        broker.pass(1);
        CHECKS.due("ended ones do not count", broker.below(3), 0);
    }
}
