/** Promises 1 to 5 and 16: a new object, policies, mounts and capabilities. */
public final class PolicyTest {
    private static final Checks CHECKS = new Checks();

    public static void main(String[] args) {
        newObject();
        policies();
        allowing();
        allowingWrongly();
        clearing();
        closedAndOpenRules();
        longestRuleDecides();
        closedRuleDecides();
        earlierFolderDecides();
        severalPolicies();
        rootCapabilities();
        mounting();
        mountingWrongly();
        longestMountCounts();
        CHECKS.end("PolicyTest");
    }

    /** A broker with two policies, of which the token 1 has both and the token 2 the first alone. */
    private static SecretBroker withTokens() {
        SecretBroker broker = new SecretBroker();
        broker.policy();
        broker.policy();
        broker.create(0, 3, 1000, 5000, 0);
        broker.create(0, 1, 1000, 5000, 0);
        return broker;
    }

    private static void capable(SecretBroker broker, int token, int path, int want) {
        CHECKS.due("capabilities(" + token + ", " + path + ")", broker.capabilities(token, path), want);
    }

    private static void newObject() {
        SecretBroker broker = new SecretBroker();
        CHECKS.due("new: time", broker.time(), 0);
        CHECKS.due("new: tokens", broker.tokens(), 1);
        CHECKS.due("new: root alive", broker.isAlive(0), true);
        CHECKS.due("new: root parent", broker.parentOf(0), -1);
        CHECKS.due("new: root end", broker.endOf(0), -1);
        CHECKS.due("new: root uses", broker.usesLeft(0), -1);
        CHECKS.due("new: below root", broker.below(0), 0);
        CHECKS.due("new: credentials", broker.credentials(), 0);
        CHECKS.due("new: credentials of root", broker.credentialsOf(0), 0);
        CHECKS.due("new: next end", broker.nextEnd(), -1);
        CHECKS.due("new: entries", broker.entries(), 0);
        CHECKS.due("new: no mount", broker.whyDenied(0, 1), SecretBroker.UNMOUNTED);
        CHECKS.refused("new: no policy", broker, Checks.BAD_NUMBER, () -> broker.clear(0));
        CHECKS.refused("new: no token 1", broker, Checks.BAD_NUMBER, () -> broker.isAlive(1));
        CHECKS.refused("new: no credential", broker, Checks.BAD_NUMBER, () -> broker.works(0));
    }

    private static void policies() {
        SecretBroker broker = new SecretBroker();
        for (int i = 0; i < 8; i++) {
            CHECKS.due("policy " + i, broker.policy(), i);
            CHECKS.due("policy " + i + " has no rules", broker.clear(i), 0);
        }
        CHECKS.refused("a ninth policy", broker, Checks.BAD_STATE, broker::policy);
        CHECKS.refused("the ninth is none", broker, Checks.BAD_NUMBER, () -> broker.clear(8));
        CHECKS.due("policies write nothing", broker.entries(), 0);
    }

    private static void allowing() {
        SecretBroker broker = withTokens();
        CHECKS.due("first rule", broker.allow(0, 12, false, 1), 1);
        CHECKS.due("same pattern, open", broker.allow(0, 12, true, 2), 2);
        capable(broker, 2, 12, 1);
        capable(broker, 2, 123, 2);
        CHECKS.due("same rule again", broker.allow(0, 12, false, 6), 2);
        capable(broker, 2, 12, 6);
        capable(broker, 2, 123, 2);
        CHECKS.due("same open rule again", broker.allow(0, 12, true, 4), 2);
        capable(broker, 2, 123, 4);
        CHECKS.due("another policy", broker.allow(1, 12, false, 1), 1);
        capable(broker, 1, 12, 7);
        capable(broker, 2, 12, 6);
        CHECKS.due("third", broker.allow(0, 9, true, 0), 3);
        CHECKS.due("fourth", broker.allow(0, 999999, true, 15), 4);
        CHECKS.due("fifth", broker.allow(0, 111111, true, 3), 5);
        CHECKS.due("sixth", broker.allow(0, 8, false, 3), 6);
        CHECKS.refused("seventh", broker, Checks.BAD_STATE, () -> broker.allow(0, 8, true, 3));
        CHECKS.due("six, one anew", broker.allow(0, 8, false, 5), 6);
        capable(broker, 2, 8, 5);
        CHECKS.due("rules write nothing", broker.entries(), 2);
    }

    private static void allowingWrongly() {
        SecretBroker broker = withTokens();
        for (int policy : new int[] {-1, 2, 8, Integer.MIN_VALUE, Integer.MAX_VALUE}) {
            CHECKS.refused("allow for policy " + policy, broker, Checks.BAD_NUMBER,
                    () -> broker.allow(policy, 1, true, 1));
            CHECKS.refused("allow all wrong for policy " + policy, broker, Checks.BAD_NUMBER,
                    () -> broker.allow(policy, 0, true, 16));
        }
        for (int pattern : new int[] {0, -1, -99, 10, 101, 1234560, 1000000, 1111111, 102345,
                Integer.MIN_VALUE, Integer.MAX_VALUE}) {
            CHECKS.refused("allow at " + pattern, broker, Checks.BAD_ARGUMENT,
                    () -> broker.allow(0, pattern, true, 1));
        }
        for (int set : new int[] {-1, 16, Integer.MIN_VALUE, Integer.MAX_VALUE}) {
            CHECKS.refused("allow " + set, broker, Checks.BAD_ARGUMENT, () -> broker.allow(0, 1, true, set));
        }
        for (int pattern = 1; pattern <= 6; pattern++) {
            broker.allow(0, pattern, true, 1);
        }
        CHECKS.refused("seventh, with no pattern", broker, Checks.BAD_ARGUMENT,
                () -> broker.allow(0, 0, true, 1));
        CHECKS.refused("seventh, with no set", broker, Checks.BAD_ARGUMENT,
                () -> broker.allow(0, 7, true, 16));
        CHECKS.refused("seventh", broker, Checks.BAD_STATE, () -> broker.allow(0, 7, true, 15));
    }

    private static void clearing() {
        SecretBroker broker = withTokens();
        broker.allow(0, 1, true, 1);
        broker.allow(0, 2, true, 1);
        broker.allow(1, 1, true, 2);
        CHECKS.due("clear two", broker.clear(0), 2);
        CHECKS.due("clear none", broker.clear(0), 0);
        capable(broker, 1, 1, 2);
        capable(broker, 2, 1, 0);
        CHECKS.due("a rule behind clear", broker.allow(0, 3, true, 4), 1);
        capable(broker, 2, 1, 0);
        capable(broker, 2, 2, 0);
        capable(broker, 2, 3, 4);
        for (int policy : new int[] {-1, 2, 8, Integer.MIN_VALUE, Integer.MAX_VALUE}) {
            CHECKS.refused("clear " + policy, broker, Checks.BAD_NUMBER, () -> broker.clear(policy));
        }
        for (int pattern = 1; pattern <= 6; pattern++) {
            broker.allow(0, pattern, true, 1);
        }
        CHECKS.due("clear six", broker.clear(0), 6);
        CHECKS.due("clear writes nothing", broker.entries(), 2);
    }

    private static void closedAndOpenRules() {
        SecretBroker broker = withTokens();
        broker.allow(0, 194, false, 1);
        broker.allow(1, 592, true, 2);
        capable(broker, 2, 194 - 10, 1);
        capable(broker, 2, 114, 1);
        capable(broker, 2, 115, 0);
        capable(broker, 2, 214, 0);
        capable(broker, 2, 1141, 0);
        capable(broker, 2, 11, 0);
        capable(broker, 2, 1, 0);
        capable(broker, 1, 582, 2);
        capable(broker, 1, 513345, 0);
        capable(broker, 1, 532345, 2);
        capable(broker, 1, 5323, 2);
        capable(broker, 1, 53, 0);
        capable(broker, 1, 1532, 0);
        capable(broker, 2, 582, 0);
        broker.allow(0, 399996, false, 4);
        broker.allow(0, 499996, true, 2);
        capable(broker, 2, 312346, 4);
        capable(broker, 2, 412346, 2);
        capable(broker, 2, 212346, 0);
        capable(broker, 2, 412345, 0);
    }

    private static void longestRuleDecides() {
        SecretBroker broker = withTokens();
        broker.allow(0, 1, true, 1);
        broker.allow(0, 99, true, 2);
        broker.allow(0, 123, false, 0);
        capable(broker, 2, 1, 1);
        capable(broker, 2, 12, 2);
        capable(broker, 2, 123, 0);
        capable(broker, 2, 1234, 2);
        SecretBroker turned = withTokens();
        turned.allow(0, 99, true, 2);
        turned.allow(0, 1, true, 1);
        capable(turned, 2, 12, 2);
    }

    private static void closedRuleDecides() {
        SecretBroker broker = withTokens();
        broker.allow(0, 12, true, 1);
        broker.allow(0, 99, false, 2);
        capable(broker, 2, 12, 2);
        capable(broker, 2, 123, 1);
        SecretBroker turned = withTokens();
        turned.allow(0, 99, false, 2);
        turned.allow(0, 12, true, 1);
        capable(turned, 2, 12, 2);
        capable(turned, 2, 123, 1);
    }

    private static void earlierFolderDecides() {
        int[][] pairs = {{129, 192}, {199, 922}, {122, 129}, {122, 922}, {919, 991}, {192, 199}};
        for (int[] pair : pairs) {
            for (int first = 0; first < 2; first++) {
                for (boolean open : new boolean[] {true, false}) {
                    SecretBroker broker = withTokens();
                    broker.allow(0, pair[first], open, 1 + first);
                    broker.allow(0, pair[1 - first], open, 2 - first);
                    int path = pair[0] == 919 ? 311 : 122;
                    capable(broker, 2, path, 1);
                }
            }
        }
    }

    private static void severalPolicies() {
        SecretBroker broker = withTokens();
        broker.allow(0, 1, true, 1);
        broker.allow(1, 12, true, 6);
        capable(broker, 1, 1, 1);
        capable(broker, 1, 12, 7);
        capable(broker, 2, 12, 1);
        broker.allow(1, 123, true, 8);
        capable(broker, 1, 1234, 0);
        capable(broker, 2, 1234, 1);
        broker.allow(1, 1234, false, 2);
        capable(broker, 1, 1234, 3);
        broker.allow(0, 1234, true, 15);
        capable(broker, 1, 1234, 0);
        broker.revoke(1);
        capable(broker, 1, 12, 7);
        int bare = broker.create(0, 0, 1, 1, 0);
        capable(broker, bare, 12, 0);
        CHECKS.refused("no token", broker, Checks.BAD_NUMBER, () -> broker.capabilities(4, 1));
        CHECKS.refused("no token, no path", broker, Checks.BAD_NUMBER, () -> broker.capabilities(-1, 9));
        for (int path : new int[] {0, -1, 9, 19, 91, 10, 911111, 119111, 111119, 1000000, 1111111,
                Integer.MIN_VALUE, Integer.MAX_VALUE}) {
            CHECKS.refused("no path " + path, broker, Checks.BAD_ARGUMENT, () -> broker.capabilities(1, path));
        }
    }

    private static void rootCapabilities() {
        SecretBroker broker = withTokens();
        broker.allow(0, 9, true, 8);
        capable(broker, 0, 1, 7);
        capable(broker, 0, 888888, 7);
    }

    private static void mounting() {
        SecretBroker broker = new SecretBroker();
        CHECKS.due("first mount", broker.mount(888888, 1, 1), 1);
        CHECKS.due("again", broker.mount(888888, 1000, 5000), 1);
        for (int path = 1; path <= 5; path++) {
            CHECKS.due("mount " + path, broker.mount(path, 1000, 1000), path + 1);
        }
        CHECKS.refused("seventh", broker, Checks.BAD_STATE, () -> broker.mount(6, 1, 1));
        CHECKS.due("six, one anew", broker.mount(3, 7, 9), 6);
        broker.request(0, 3);
        broker.pass(5);
        CHECKS.due("given with the newer minutes", broker.endOfCredential(0), 7);
        CHECKS.due("and the newer bound", broker.renewCredential(0, 1000), 9);
        broker.mount(3, 100, 200);
        CHECKS.due("keeps its bound", broker.renewCredential(0, 1000), 9);
        CHECKS.due("mounts write nothing", broker.entries(), 3);
    }

    private static void mountingWrongly() {
        SecretBroker broker = new SecretBroker();
        for (int path : new int[] {0, -1, 9, 19, 10, 911111, 111119, 1000000, 1234567,
                Integer.MIN_VALUE, Integer.MAX_VALUE}) {
            CHECKS.refused("mount at " + path, broker, Checks.BAD_ARGUMENT, () -> broker.mount(path, 1, 1));
        }
        for (int minutes : new int[] {0, -1, 1001, Integer.MIN_VALUE, Integer.MAX_VALUE}) {
            CHECKS.refused("minutes " + minutes, broker, Checks.BAD_ARGUMENT,
                    () -> broker.mount(1, minutes, 5000));
        }
        for (int bound : new int[] {0, 9, -10, 5001, Integer.MIN_VALUE, Integer.MAX_VALUE}) {
            CHECKS.refused("bound " + bound, broker, Checks.BAD_ARGUMENT, () -> broker.mount(1, 10, bound));
        }
        for (int path = 1; path <= 6; path++) {
            CHECKS.due("mount " + path, broker.mount(path, 1, 5000), path);
        }
        CHECKS.refused("seventh, wrong", broker, Checks.BAD_ARGUMENT, () -> broker.mount(7, 1, 0));
        CHECKS.refused("seventh, right", broker, Checks.BAD_STATE, () -> broker.mount(7, 1, 1));
        CHECKS.refused("none of six", broker, Checks.BAD_ARGUMENT, () -> broker.mount(6, 0, 1));
    }

    private static void longestMountCounts() {
        SecretBroker broker = new SecretBroker();
        broker.mount(12, 20, 20);
        broker.mount(1, 10, 10);
        broker.mount(1234, 40, 40);
        broker.mount(123, 30, 30);
        broker.mount(2, 50, 50);
        int[][] due = {{1, 10}, {12, 20}, {11, 10}, {123, 30}, {124, 20}, {1234, 40}, {123456, 40}, {2, 50}};
        for (int[] pair : due) {
            int credential = broker.request(0, pair[0]);
            CHECKS.due("lease at " + pair[0], broker.endOfCredential(credential), pair[1]);
        }
        CHECKS.due("nothing at 3", broker.whyDenied(0, 3), SecretBroker.UNMOUNTED);
        CHECKS.due("nothing at 31", broker.whyDenied(0, 31), SecretBroker.UNMOUNTED);
    }
}
