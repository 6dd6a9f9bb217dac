/** The example of README.md, call by call. */
public final class UseTest {
    public static void main(String[] args) {
        Checks checks = new Checks();
        SecretBroker broker = new SecretBroker();
        int readers = broker.policy();
        checks.due("readers", readers, 0);
        checks.due("rules", broker.allow(readers, 12, true, SecretBroker.READ), 1);
        checks.due("mounts", broker.mount(1, 10, 60), 1);
        int token = broker.create(0, 1 << readers, 30, 120, 0);
        checks.due("token", token, 1);
        int credential = broker.request(token, 123);
        checks.due("credential", credential, 0);
        checks.due("ceased", broker.pass(5), 0);
        checks.due("its end", broker.renewCredential(credential, 20), 25);
        checks.due("denied", broker.request(token, 2), SecretBroker.NONE);
        checks.due("why", broker.whyDenied(token, 2), SecretBroker.UNMOUNTED);
        checks.due("revoked", broker.revoke(token), 2);
        checks.due("works", broker.works(credential), false);
        checks.due("entries", broker.entries(), 5);
        checks.due("the last kind", broker.kindOf(4), SecretBroker.REVOKED);
        checks.end("UseTest");
    }
}
