/** 'If several exceptions apply to a call, the one that its comment lists first is thrown.' */
public final class OrderEdgesTest {
    private static final Checks CHECKS = new Checks();
    private static final String BAD_NUMBER = Checks.BAD_NUMBER, BAD_ARGUMENT = Checks.BAD_ARGUMENT;

    public static void main(String[] args) {
        allowing();
        mounting();
        creatingForNoParent();
        creatingWithABadArgument();
        renewing();
        requesting();
        asking();
        renewingACredential();
        CHECKS.end("OrderEdgesTest");
    }

    /** No such policy, then no pattern or no set, then the seventh rule. */
    private static void allowing() {
        CHECKS.refused(Pasts::lived, BAD_NUMBER, "allow", 3, 0, 1, 1);
        CHECKS.refused(Pasts::lived, BAD_NUMBER, "allow", 3, 1, 1, 16);
        CHECKS.refused(Pasts::lived, BAD_NUMBER, "allow", -1, 10, 0, -1);
        CHECKS.refused(Pasts::full, BAD_NUMBER, "allow", 8, 0, 0, 16);
        CHECKS.refused(Pasts::full, BAD_ARGUMENT, "allow", 0, 10, 1, 1);
        CHECKS.refused(Pasts::full, BAD_ARGUMENT, "allow", 0, 7, 1, 16);
        CHECKS.refused(Pasts::full, BAD_ARGUMENT, "allow", 7, 7, 1, -1);
        CHECKS.refused(Pasts::full, BAD_ARGUMENT, "allow", 7, 0, 0, 16);
    }

    /** A bad argument, then the seventh mount. */
    private static void mounting() {
        CHECKS.refused(Pasts::full, BAD_ARGUMENT, "mount", 9, 1, 1);
        CHECKS.refused(Pasts::full, BAD_ARGUMENT, "mount", 7, 0, 1);
        CHECKS.refused(Pasts::full, BAD_ARGUMENT, "mount", 7, 1001, 5000);
        CHECKS.refused(Pasts::full, BAD_ARGUMENT, "mount", 7, 2, 1);
        CHECKS.refused(Pasts::full, BAD_ARGUMENT, "mount", 7, 1, 5001);
    }

    /** There never was such a token, then all else. */
    private static void creatingForNoParent() {
        for (int parent : new int[] {-1, 9}) {
            CHECKS.refused(Pasts::lived, BAD_NUMBER, "create", parent, 8, 1, 1, 0);
            CHECKS.refused(Pasts::lived, BAD_NUMBER, "create", parent, -1, 1, 1, 0);
            CHECKS.refused(Pasts::lived, BAD_NUMBER, "create", parent, 0, 0, 1, 0);
            CHECKS.refused(Pasts::lived, BAD_NUMBER, "create", parent, 0, 2, 1, 0);
            CHECKS.refused(Pasts::lived, BAD_NUMBER, "create", parent, 0, 1, 5001, 0);
            CHECKS.refused(Pasts::lived, BAD_NUMBER, "create", parent, 0, 1, 1, 101);
            CHECKS.refused(Pasts::lived, BAD_NUMBER, "create", parent, 8, 0, -1, -1);
        }
        CHECKS.refused(Pasts::full, BAD_NUMBER, "create", 30, 0, 1, 1, 0);
        CHECKS.refused(Pasts::full, BAD_NUMBER, "create", -1, 256, 0, 0, -1);
    }

    /** A bad argument, then a parent that is not alive, or 30 tokens. */
    private static void creatingWithABadArgument() {
        for (int parent : new int[] {4, 5, 6, 8}) {
            badArguments(Pasts::lived, parent, 8);
        }
        CHECKS.refused(Pasts::lived, BAD_ARGUMENT, "create", 4, 2, 1, 1, 0);
        CHECKS.refused(Pasts::lived, BAD_ARGUMENT, "create", 6, 4, 1, 1, 0);
        CHECKS.refused(Pasts::lived, BAD_ARGUMENT, "create", 8, 1, 1, 1, 0);
        badArguments(Pasts::full, 0, 256);
        badArguments(Pasts::full, 29, 256);
        Checks.Past fullWithoutPolicies = broker -> {
            broker.policy();
            for (int token = 1; token <= 29; token++) {
                broker.create(0, 0, 9, 9, 0);
            }
        };
        CHECKS.refused(fullWithoutPolicies, BAD_ARGUMENT, "create", 1, 1, 1, 1, 0);
        CHECKS.refused(fullWithoutPolicies, Checks.BAD_STATE, "create", 0, 1, 1, 1, 0);
    }

    private static void badArguments(Checks.Past past, int parent, int noPolicy) {
        CHECKS.refused(past, BAD_ARGUMENT, "create", parent, noPolicy, 1, 1, 0);
        CHECKS.refused(past, BAD_ARGUMENT, "create", parent, -1, 1, 1, 0);
        CHECKS.refused(past, BAD_ARGUMENT, "create", parent, 0, 0, 1, 0);
        CHECKS.refused(past, BAD_ARGUMENT, "create", parent, 0, 1001, 5000, 0);
        CHECKS.refused(past, BAD_ARGUMENT, "create", parent, 0, 2, 1, 0);
        CHECKS.refused(past, BAD_ARGUMENT, "create", parent, 0, 1, 5001, 0);
        CHECKS.refused(past, BAD_ARGUMENT, "create", parent, 0, 1, 1, -1);
        CHECKS.refused(past, BAD_ARGUMENT, "create", parent, 0, 1, 1, 101);
    }

    /** There never was such a token, then no such minutes, then the root or one that is not alive. */
    private static void renewing() {
        for (int minutes : new int[] {0, 1001}) {
            CHECKS.refused(Pasts::lived, BAD_NUMBER, "renew", -1, minutes);
            CHECKS.refused(Pasts::lived, BAD_NUMBER, "renew", 9, minutes);
            for (int token : new int[] {0, 4, 5, 6, 8}) {
                CHECKS.refused(Pasts::lived, BAD_ARGUMENT, "renew", token, minutes);
            }
        }
    }

    /** There never was such a token, then no path, then 40 credentials. */
    private static void requesting() {
        for (int path : new int[] {0, 9, 1111111}) {
            CHECKS.refused(Pasts::lived, BAD_NUMBER, "request", -1, path);
            CHECKS.refused(Pasts::lived, BAD_NUMBER, "request", 9, path);
            CHECKS.refused(Pasts::full, BAD_NUMBER, "request", 30, path);
            CHECKS.refused(Pasts::full, BAD_ARGUMENT, "request", 0, path);
            CHECKS.refused(Pasts::full, BAD_ARGUMENT, "request", 29, path);
        }
        CHECKS.refused(Pasts::full, BAD_NUMBER, "request", -1, 1);
        CHECKS.refused(Pasts::full, BAD_NUMBER, "request", 30, 1);
    }

    /** There never was such a token, then no path. */
    private static void asking() {
        for (String call : new String[] {"capabilities", "whyDenied"}) {
            for (int path : new int[] {0, -1, 9, 1111111}) {
                CHECKS.refused(Pasts::lived, BAD_NUMBER, call, -1, path);
                CHECKS.refused(Pasts::lived, BAD_NUMBER, call, 9, path);
            }
        }
    }

    /** There never was such a credential, then no such minutes, then one that is not alive. */
    private static void renewingACredential() {
        for (int minutes : new int[] {0, 1001}) {
            CHECKS.refused(Pasts::lived, BAD_NUMBER, "renewCredential", -1, minutes);
            CHECKS.refused(Pasts::lived, BAD_NUMBER, "renewCredential", 7, minutes);
            CHECKS.refused(Pasts::lived, BAD_ARGUMENT, "renewCredential", 3, minutes);
            CHECKS.refused(Pasts::lived, BAD_ARGUMENT, "renewCredential", 6, minutes);
        }
    }
}
