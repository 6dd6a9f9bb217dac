/**
 * A SecretBroker that counts its calls: a test that asks one for more than is promised is wrong itself.
 * The calls can be made as they are, or by their names, where what they throw is an answer, too.
 */
final class Broker {
    static final int PROMISED = 512;

    private final SecretBroker broker = new SecretBroker();
    private final int most;
    private int calls = 0;

    Broker() {
        this(PROMISED);
    }

    Broker(int most) {
        this.most = most;
    }

    private SecretBroker counted() {
        calls++;
        if (calls > most) {
            throw new AssertionError("a test makes more than " + most + " calls of one broker");
        }
        return broker;
    }

    int callsLeft() {
        return most - calls;
    }

    /** What the call answers, or the simple name of what it throws; a flag is open if it is not 0. */
    Object ask(String call, int... a) {
        return Checks.outcome(() -> answer(call, a));
    }

    private Object answer(String call, int[] a) {
        switch (call) {
            case "policy": return policy();
            case "allow": return allow(a[0], a[1], a[2] != 0, a[3]);
            case "clear": return clear(a[0]);
            case "mount": return mount(a[0], a[1], a[2]);
            case "create": return create(a[0], a[1], a[2], a[3], a[4]);
            case "renew": return renew(a[0], a[1]);
            case "revoke": return revoke(a[0]);
            case "revokeAlone": return revokeAlone(a[0]);
            case "isAlive": return isAlive(a[0]);
            case "parentOf": return parentOf(a[0]);
            case "endOf": return endOf(a[0]);
            case "usesLeft": return usesLeft(a[0]);
            case "below": return below(a[0]);
            case "tokens": return tokens();
            case "capabilities": return capabilities(a[0], a[1]);
            case "request": return request(a[0], a[1]);
            case "whyDenied": return whyDenied(a[0], a[1]);
            case "renewCredential": return renewCredential(a[0], a[1]);
            case "revokeBelow": return revokeBelow(a[0]);
            case "works": return works(a[0]);
            case "endOfCredential": return endOfCredential(a[0]);
            case "credentials": return credentials();
            case "credentialsOf": return credentialsOf(a[0]);
            case "pass": return pass(a[0]);
            case "time": return time();
            case "nextEnd": return nextEnd();
            case "entries": return entries();
            case "kindOf": return kindOf(a[0]);
            case "subjectOf": return subjectOf(a[0]);
            case "detailOf": return detailOf(a[0]);
            case "sumOf": return sumOf(a[0]);
            default: throw new AssertionError("no call " + call);
        }
    }

    int policy() {
        return counted().policy();
    }

    int allow(int policy, int pattern, boolean open, int capabilities) {
        return counted().allow(policy, pattern, open, capabilities);
    }

    int clear(int policy) {
        return counted().clear(policy);
    }

    int mount(int path, int minutes, int bound) {
        return counted().mount(path, minutes, bound);
    }

    int create(int parent, int policies, int minutes, int bound, int uses) {
        return counted().create(parent, policies, minutes, bound, uses);
    }

    int renew(int token, int minutes) {
        return counted().renew(token, minutes);
    }

    int revoke(int token) {
        return counted().revoke(token);
    }

    int revokeAlone(int token) {
        return counted().revokeAlone(token);
    }

    boolean isAlive(int token) {
        return counted().isAlive(token);
    }

    int parentOf(int token) {
        return counted().parentOf(token);
    }

    int endOf(int token) {
        return counted().endOf(token);
    }

    int usesLeft(int token) {
        return counted().usesLeft(token);
    }

    int below(int token) {
        return counted().below(token);
    }

    int tokens() {
        return counted().tokens();
    }

    int capabilities(int token, int path) {
        return counted().capabilities(token, path);
    }

    int request(int token, int path) {
        return counted().request(token, path);
    }

    int whyDenied(int token, int path) {
        return counted().whyDenied(token, path);
    }

    int renewCredential(int credential, int minutes) {
        return counted().renewCredential(credential, minutes);
    }

    int revokeBelow(int path) {
        return counted().revokeBelow(path);
    }

    boolean works(int credential) {
        return counted().works(credential);
    }

    int endOfCredential(int credential) {
        return counted().endOfCredential(credential);
    }

    int credentials() {
        return counted().credentials();
    }

    int credentialsOf(int token) {
        return counted().credentialsOf(token);
    }

    int pass(int minutes) {
        return counted().pass(minutes);
    }

    int time() {
        return counted().time();
    }

    int nextEnd() {
        return counted().nextEnd();
    }

    int entries() {
        return counted().entries();
    }

    int kindOf(int entry) {
        return counted().kindOf(entry);
    }

    int subjectOf(int entry) {
        return counted().subjectOf(entry);
    }

    int detailOf(int entry) {
        return counted().detailOf(entry);
    }

    long sumOf(int entry) {
        return counted().sumOf(entry);
    }
}
