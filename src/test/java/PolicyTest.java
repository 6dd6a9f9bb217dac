/** Promises 1 to 5 and 16: a new object, policies, mounts and capabilities. */
public final class PolicyTest {
    private static final Checks CHECKS = new Checks();

    public static void main(String[] args) {
        newObject();
        policies();
        allowing();
        clearing();
        closedAndOpenRules();
        longestRuleDecides();
        closedRuleDecides();
        earlierFolderDecides();
        severalPolicies();
        rootCapabilities();
        mounting();
        longestMountCounts();
        CHECKS.end("PolicyTest");
    }

    /** A broker with two policies, of which the token 1 has both and the token 2 the first alone. */
    private static Broker withTokens() {
        Broker broker = new Broker();
        broker.policy();
        broker.policy();
        broker.create(0, 3, 1000, 5000, 0);
        broker.create(0, 1, 1000, 5000, 0);
        return broker;
    }

    private static void capable(Broker broker, int token, int path, int want) {
        CHECKS.due("capabilities(" + token + ", " + path + ")", broker.capabilities(token, path), want);
    }

    private static void newObject() {
        Broker broker = new Broker();
        CHECKS.due("new: time", broker.time(), 0);
        CHECKS.due("new: tokens", broker.tokens(), 1);
        CHECKS.due("new: root alive", broker.isAlive(0), true);
        CHECKS.due("new: root parent", broker.parentOf(0), -1);
        CHECKS.due("new: root end", broker.endOf(0), -1);
        CHECKS.due("new: root uses", broker.usesLeft(0), -1);
        CHECKS.due("new: below root", broker.below(0), 0);
        CHECKS.due("new: credentials", broker.credentials(), 0);
        CHECKS.due("new: credentials of root", broker.credentialsOf(0), 0);
        CHECKS.due("new: next end", broker.nextEnd(), -1);
        CHECKS.due("new: entries", broker.entries(), 0);
        CHECKS.due("new: no mount", broker.whyDenied(0, 1), SecretBroker.UNMOUNTED);
        CHECKS.throwing("new: no policy", Checks.BAD_NUMBER, () -> broker.clear(0));
        CHECKS.throwing("new: no token 1", Checks.BAD_NUMBER, () -> broker.isAlive(1));
        CHECKS.throwing("new: no credential", Checks.BAD_NUMBER, () -> broker.works(0));
    }

    private static void policies() {
        Broker broker = new Broker();
        for (int i = 0; i < 8; i++) {
            CHECKS.due("policy " + i, broker.policy(), i);
            CHECKS.due("policy " + i + " has no rules", broker.clear(i), 0);
        }
        CHECKS.throwing("a ninth policy", Checks.BAD_STATE, broker::policy);
        CHECKS.throwing("the ninth is none", Checks.BAD_NUMBER, () -> broker.clear(8));
        CHECKS.due("policies write nothing", broker.entries(), 0);
    }

    private static void allowing() {
        Broker broker = withTokens();
        CHECKS.due("first rule", broker.allow(0, 12, false, 1), 1);
        CHECKS.due("same pattern, open", broker.allow(0, 12, true, 2), 2);
        capable(broker, 2, 12, 1);
        capable(broker, 2, 123, 2);
        CHECKS.due("same rule again", broker.allow(0, 12, false, 6), 2);
        capable(broker, 2, 12, 6);
        capable(broker, 2, 123, 2);
        CHECKS.due("same open rule again", broker.allow(0, 12, true, 4), 2);
        capable(broker, 2, 123, 4);
        CHECKS.due("another policy", broker.allow(1, 12, false, 1), 1);
        capable(broker, 1, 12, 7);
        capable(broker, 2, 12, 6);
        CHECKS.due("third", broker.allow(0, 9, true, 0), 3);
        CHECKS.due("fourth", broker.allow(0, 999999, true, 15), 4);
        CHECKS.due("fifth", broker.allow(0, 111111, true, 3), 5);
        CHECKS.due("sixth", broker.allow(0, 8, false, 3), 6);
        CHECKS.throwing("seventh", Checks.BAD_STATE, () -> broker.allow(0, 8, true, 3));
        CHECKS.due("six, one anew", broker.allow(0, 8, false, 5), 6);
        capable(broker, 2, 8, 5);
        CHECKS.due("rules write nothing", broker.entries(), 2);
    }

    private static void clearing() {
        Broker broker = withTokens();
        broker.allow(0, 1, true, 1);
        broker.allow(0, 2, true, 1);
        broker.allow(1, 1, true, 2);
        CHECKS.due("clear two", broker.clear(0), 2);
        CHECKS.due("clear none", broker.clear(0), 0);
        capable(broker, 1, 1, 2);
        capable(broker, 2, 1, 0);
        CHECKS.due("a rule behind clear", broker.allow(0, 3, true, 4), 1);
        capable(broker, 2, 1, 0);
        capable(broker, 2, 2, 0);
        capable(broker, 2, 3, 4);
        for (int policy : new int[] {-1, 2, 8, Integer.MIN_VALUE, Integer.MAX_VALUE}) {
            CHECKS.throwing("clear " + policy, Checks.BAD_NUMBER, () -> broker.clear(policy));
        }
        for (int pattern = 1; pattern <= 6; pattern++) {
            broker.allow(0, pattern, true, 1);
        }
        CHECKS.due("clear six", broker.clear(0), 6);
        CHECKS.due("clear writes nothing", broker.entries(), 2);
    }

    private static void closedAndOpenRules() {
        Broker broker = withTokens();
        broker.allow(0, 194, false, 1);
        broker.allow(1, 592, true, 2);
        capable(broker, 2, 194 - 10, 1);
        capable(broker, 2, 114, 1);
        capable(broker, 2, 115, 0);
        capable(broker, 2, 214, 0);
        capable(broker, 2, 1141, 0);
        capable(broker, 2, 11, 0);
        capable(broker, 2, 1, 0);
        capable(broker, 1, 582, 2);
        capable(broker, 1, 513345, 0);
        capable(broker, 1, 532345, 2);
        capable(broker, 1, 5323, 2);
        capable(broker, 1, 53, 0);
        capable(broker, 1, 1532, 0);
        capable(broker, 2, 582, 0);
        broker.allow(0, 399996, false, 4);
        broker.allow(0, 499996, true, 2);
        capable(broker, 2, 312346, 4);
        capable(broker, 2, 412346, 2);
        capable(broker, 2, 212346, 0);
        capable(broker, 2, 412345, 0);
    }

    private static void longestRuleDecides() {
        Broker broker = withTokens();
        broker.allow(0, 1, true, 1);
        broker.allow(0, 99, true, 2);
        broker.allow(0, 123, false, 0);
        capable(broker, 2, 1, 1);
        capable(broker, 2, 12, 2);
        capable(broker, 2, 123, 0);
        capable(broker, 2, 1234, 2);
        Broker turned = withTokens();
        turned.allow(0, 99, true, 2);
        turned.allow(0, 1, true, 1);
        capable(turned, 2, 12, 2);
    }

    private static void closedRuleDecides() {
        Broker broker = withTokens();
        broker.allow(0, 12, true, 1);
        broker.allow(0, 99, false, 2);
        capable(broker, 2, 12, 2);
        capable(broker, 2, 123, 1);
        Broker turned = withTokens();
        turned.allow(0, 99, false, 2);
        turned.allow(0, 12, true, 1);
        capable(turned, 2, 12, 2);
        capable(turned, 2, 123, 1);
    }

    private static void earlierFolderDecides() {
        int[][] pairs = {{129, 192}, {199, 922}, {122, 129}, {122, 922}, {919, 991}, {192, 199}};
        for (int[] pair : pairs) {
            for (int first = 0; first < 2; first++) {
                for (boolean open : new boolean[] {true, false}) {
                    Broker broker = withTokens();
                    broker.allow(0, pair[first], open, 1 + first);
                    broker.allow(0, pair[1 - first], open, 2 - first);
                    int path = pair[0] == 919 ? 311 : 122;
                    capable(broker, 2, path, 1);
                }
            }
        }
    }

    private static void severalPolicies() {
        Broker broker = withTokens();
        broker.allow(0, 1, true, 1);
        broker.allow(1, 12, true, 6);
        capable(broker, 1, 1, 1);
        capable(broker, 1, 12, 7);
        capable(broker, 2, 12, 1);
        broker.allow(1, 123, true, 8);
        capable(broker, 1, 1234, 0);
        capable(broker, 2, 1234, 1);
        broker.allow(1, 1234, false, 2);
        capable(broker, 1, 1234, 3);
        broker.allow(0, 1234, true, 15);
        capable(broker, 1, 1234, 0);
        broker.revoke(1);
        capable(broker, 1, 12, 7);
        int bare = broker.create(0, 0, 1, 1, 0);
        capable(broker, bare, 12, 0);
        CHECKS.throwing("no token", Checks.BAD_NUMBER, () -> broker.capabilities(4, 1));
        CHECKS.throwing("no token, no path", Checks.BAD_NUMBER, () -> broker.capabilities(-1, 9));
        for (int path : new int[] {0, -1, 9, 19, 91, 10, 911111, 119111, 111119, 1000000, 1111111,
                Integer.MIN_VALUE, Integer.MAX_VALUE}) {
            CHECKS.throwing("no path " + path, Checks.BAD_ARGUMENT, () -> broker.capabilities(1, path));
        }
    }

    private static void rootCapabilities() {
        Broker broker = withTokens();
        broker.allow(0, 9, true, 8);
        capable(broker, 0, 1, 7);
        capable(broker, 0, 888888, 7);
    }

    private static void mounting() {
        Broker broker = new Broker();
        CHECKS.due("first mount", broker.mount(888888, 1, 1), 1);
        CHECKS.due("again", broker.mount(888888, 1000, 5000), 1);
        for (int path = 1; path <= 5; path++) {
            CHECKS.due("mount " + path, broker.mount(path, 1000, 1000), path + 1);
        }
        CHECKS.throwing("seventh", Checks.BAD_STATE, () -> broker.mount(6, 1, 1));
        CHECKS.due("six, one anew", broker.mount(3, 7, 9), 6);
        broker.request(0, 3);
        broker.pass(5);
        CHECKS.due("given with the newer minutes", broker.endOfCredential(0), 7);
        CHECKS.due("and the newer bound", broker.renewCredential(0, 1000), 9);
        broker.mount(3, 100, 200);
        CHECKS.due("keeps its bound", broker.renewCredential(0, 1000), 9);
        CHECKS.due("mounts write nothing", broker.entries(), 3);
    }

    private static void longestMountCounts() {
        Broker broker = new Broker();
        broker.mount(12, 20, 20);
        broker.mount(1, 10, 10);
        broker.mount(1234, 40, 40);
        broker.mount(123, 30, 30);
        broker.mount(2, 50, 50);
        int[][] due = {{1, 10}, {12, 20}, {11, 10}, {123, 30}, {124, 20}, {1234, 40}, {123456, 40}, {2, 50}};
        for (int[] pair : due) {
            int credential = broker.request(0, pair[0]);
            CHECKS.due("lease at " + pair[0], broker.endOfCredential(credential), pair[1]);
        }
        CHECKS.due("nothing at 3", broker.whyDenied(0, 3), SecretBroker.UNMOUNTED);
        CHECKS.due("nothing at 31", broker.whyDenied(0, 31), SecretBroker.UNMOUNTED);
    }
}
