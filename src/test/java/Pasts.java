/** Brokers that have come to a state at which edges are met, each in far less than 512 calls. */
final class Pasts {
    static final int READ = SecretBroker.READ, WRITE = SecretBroker.WRITE, LIST = SecretBroker.LIST;
    static final int DENY = SecretBroker.DENY;

    private Pasts() {
    }

    static void nothing(Broker broker) {
    }

    /**
     * Three policies and three mounts; time 5. Of the tokens 0, 1, 2, 3 and 7 are alive; 4 has ended, and 5
     * with it; 6 was revoked alone, so that 7 has no parent; 8 was revoked. 3 has no uses left. Of the
     * credentials 0 of 1, 1 of 2, 2 of 3, 4 of the root and 5 of 7 work; 3 ceased with 4, and 6 was revoked
     * below 22. There are 19 entries.
     */
    static void lived(Broker broker) {
        for (int policy = 0; policy < 3; policy++) {
            broker.policy();
        }
        broker.allow(0, 1, true, READ);
        broker.allow(0, 12, false, READ | WRITE | LIST);
        broker.allow(1, 9, true, LIST);
        broker.allow(1, 129, true, READ | WRITE);
        broker.allow(2, 2, true, READ | DENY);
        broker.mount(1, 10, 30);
        broker.mount(12, 20, 20);
        broker.mount(2, 1000, 5000);
        livedTokens(broker);
        int[][] requests = {{1, 1}, {2, 12}, {3, 1}, {4, 12}, {0, 2}, {7, 11}, {0, 22}};
        for (int[] request : requests) {
            broker.request(request[0], request[1]);
        }
        broker.pass(5);
        broker.revokeAlone(6);
        broker.revoke(8);
        broker.revokeBelow(22);
    }

    private static void livedTokens(Broker broker) {
        broker.create(0, 7, 1000, 5000, 0);
        broker.create(1, 3, 500, 600, 3);
        broker.create(2, 1, 400, 400, 1);
        broker.create(0, 1, 5, 5, 0);
        broker.create(4, 1, 90, 90, 0);
        broker.create(1, 3, 90, 900, 2);
        broker.create(6, 1, 80, 800, 5);
        broker.create(0, 0, 50, 60, 100);
    }

    /**
     * All that there can be: 8 policies, of which 0 and 7 have 6 rules; mounts at 1 to 6; tokens 0 to 29,
     * t / 2 the parent of t, each with all policies, the last one with 4 uses left; 40 credentials, the
     * token c % 30 has c. Nothing ends ahead of the time 100.
     */
    static void full(Broker broker) {
        for (int policy = 0; policy < 8; policy++) {
            broker.policy();
        }
        int[] patterns = {9, 11, 12, 119, 88, 129};
        for (int i = 0; i < 6; i++) {
            broker.allow(0, patterns[i], i % 2 == 0, i == 4 ? DENY : READ + i);
            broker.allow(7, patterns[i] * 10 + 1 + i, i % 2 == 1, WRITE);
        }
        for (int path = 1; path <= 6; path++) {
            broker.mount(path, 100 * path, 100 * path + 50);
        }
        for (int token = 1; token < 30; token++) {
            broker.create(token / 2, 255, 100 + token, 1000 + token, token == 29 ? 5 : 0);
        }
        for (int credential = 0; credential < 40; credential++) {
            broker.request(credential % 30, 1 + credential % 6);
        }
    }
}
