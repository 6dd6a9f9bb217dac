/** Promises 25 to 32: time and audit. */
public final class AuditTest {
    private static final Checks CHECKS = new Checks();

    public static void main(String[] args) {
        passing();
        nextEnds();
        sums();
        CHECKS.end("AuditTest");
    }

    private static void passing() {
        Broker broker = new Broker();
        broker.mount(1, 10, 10);
        broker.create(0, 0, 20, 20, 0);
        broker.create(1, 0, 30, 30, 0);
        broker.request(0, 1);
        CHECKS.due("nothing ends", broker.pass(9), 0);
        CHECKS.due("nothing is written", broker.entries(), 3);
        CHECKS.due("time", broker.time(), 9);
        CHECKS.due("a credential ends", broker.pass(1), 1);
        CHECKS.entry("a credential ends", broker, 4, SecretBroker.EXPIRED, 0, 1);
        CHECKS.due("two tokens end", broker.pass(1000), 2);
        CHECKS.entry("two tokens end", broker, 5, SecretBroker.EXPIRED, 0, 2);
        CHECKS.due("time at last", broker.time(), 1010);
        CHECKS.due("nothing twice", broker.pass(1000), 0);
        CHECKS.due("entries at last", broker.entries(), 5);
        broker.create(0, 0, 5, 5, 0);
        broker.request(0, 1);
        broker.create(3, 0, 500, 500, 0);
        CHECKS.due("each once", broker.pass(600), 3);
    }

    private static void nextEnds() {
        Broker broker = new Broker();
        broker.mount(1, 40, 70);
        broker.mount(2, 5, 5);
        CHECKS.due("none", broker.nextEnd(), -1);
        broker.request(0, 1);
        CHECKS.due("a credential alone", broker.nextEnd(), 40);
        broker.create(0, 0, 50, 60, 0);
        CHECKS.due("a later token", broker.nextEnd(), 40);
        broker.create(0, 0, 20, 30, 0);
        CHECKS.due("an earlier token", broker.nextEnd(), 20);
        broker.renew(2, 25);
        CHECKS.due("renewed", broker.nextEnd(), 25);
        broker.request(0, 2);
        CHECKS.due("an earlier credential", broker.nextEnd(), 5);
        broker.revokeBelow(2);
        CHECKS.due("revoked", broker.nextEnd(), 25);
        broker.revoke(2);
        CHECKS.due("the token revoked", broker.nextEnd(), 40);
        broker.revokeBelow(1);
        CHECKS.due("a token alone", broker.nextEnd(), 50);
        broker.pass(49);
        CHECKS.due("just ahead", broker.nextEnd(), 50);
        broker.pass(1);
        CHECKS.due("none again", broker.nextEnd(), -1);
    }

    private static void sums() {
        Broker broker = new Broker();
        broker.mount(1, 10, 10);
        broker.create(0, 0, 20, 20, 0);
        broker.renew(1, 9);
        broker.pass(3);
        broker.request(0, 1);
        broker.request(1, 1);
        broker.revokeAlone(1);
        broker.revokeBelow(1);
        broker.pass(8);
        broker.request(0, 1);
        broker.pass(10);
        int[][] due = {{0, 0, 1, 0}, {1, 1, 20, 0}, {2, 0, 0, 3}, {3, 1, 4, 3}, {4, 1, 1, 3}, {4, 0, 1, 3},
            {2, 0, 1, 11}, {5, 0, 1, 21}};
        CHECKS.due("entries", broker.entries(), due.length);
        long sum = 17;
        for (int i = 0; i < due.length; i++) {
            sum = (31 * sum + 7 * due[i][0] + 5 * due[i][1] + 3 * due[i][2] + due[i][3]) % 1000003;
            CHECKS.due("kind " + i, broker.kindOf(i), due[i][0]);
            CHECKS.due("subject " + i, broker.subjectOf(i), due[i][1]);
            CHECKS.due("detail " + i, broker.detailOf(i), due[i][2]);
            CHECKS.due("sum " + i, broker.sumOf(i), sum);
        }
        CHECKS.due("the first sum", broker.sumOf(0), 530L);
    }
}
