/**
 * Ways to have a broker show what it holds: what its questions tell, and what only later deeds bring to
 * light. Each wants a broker of its own, as most of them change it.
 */
final class Probes {
    static final int COUNT = 9;
    private static final int ROUNDS = 6;
    private static final int[] PATHS = {1, 2, 7, 8, 11, 12, 22, 88, 121, 1234, 123456, 888888};

    private final Broker broker;
    private final StringBuilder text = new StringBuilder();

    private Probes(Broker broker) {
        this.broker = broker;
    }

    static String shown(int probe, Broker broker) {
        Probes probes = new Probes(broker);
        switch (probe) {
            case 0: probes.tokens(); break;
            case 1: probes.credentials(); break;
            case 2: probes.entries(); break;
            case 3: probes.policies(); break;
            case 4: probes.mounts(); break;
            case 5: probes.tokenBounds(); break;
            case 6: probes.credentialBounds(); break;
            case 7: probes.ends(); break;
            default: probes.revocations(); break;
        }
        return probes.text.toString();
    }

    private Object show(String call, int... arguments) {
        Object answer = broker.ask(call, arguments);
        text.append(Checks.told(call, arguments)).append(" = ").append(answer).append('\n');
        return answer;
    }

    private void tokens() {
        for (String call : new String[] {"time", "nextEnd", "tokens", "credentials", "entries"}) {
            show(call);
        }
        for (int token = 0; show("isAlive", token) instanceof Boolean; token++) {
            for (String call : new String[] {"parentOf", "endOf", "usesLeft", "below", "credentialsOf"}) {
                show(call, token);
            }
        }
    }

    private void credentials() {
        for (int credential = 0; show("works", credential) instanceof Boolean; credential++) {
            show("endOfCredential", credential);
        }
        for (int token = 0; token < 9; token++) {
            for (int path : PATHS) {
                show("whyDenied", token, path);
            }
        }
    }

    private void entries() {
        for (int entry = 0; show("kindOf", entry) instanceof Integer; entry++) {
            show("subjectOf", entry);
            show("detailOf", entry);
            show("sumOf", entry);
        }
    }

    /** Rules, the sets of policies that tokens can hand on, and how many rules and policies there are. */
    private void policies() {
        for (int token = 0; token < 9; token++) {
            for (int path : PATHS) {
                show("capabilities", token, path);
            }
            for (int policy = 0; policy < 8; policy++) {
                show("create", token, 1 << policy, 1, 1, 0);
            }
        }
        for (int policy = 0; policy < 9; policy++) {
            show("clear", policy);
        }
        for (int i = 0; i < 9; i++) {
            show("policy");
        }
    }

    private void mounts() {
        for (int path = 1; path <= 8; path++) {
            show("revokeBelow", path);
        }
        int[] given = new int[PATHS.length];
        int count = 0;
        for (int path : PATHS) {
            Object credential = show("request", 0, path);
            if (credential instanceof Integer && (Integer) credential >= 0) {
                given[count] = (Integer) credential;
                show("endOfCredential", given[count]);
                count++;
            }
        }
        for (int round = 0; round < ROUNDS; round++) {
            for (int i = 0; i < count; i++) {
                show("renewCredential", given[i], 1000);
            }
            show("pass", 999);
        }
        show("mount", 1, 1, 1);
        show("mount", 777777, 1, 1);
    }

    private void tokenBounds() {
        for (int round = 0; round < ROUNDS; round++) {
            for (int token = 1; token <= 30; token++) {
                show("renew", token, 1000);
            }
            show("pass", 999);
        }
        nextNumbers();
    }

    private void credentialBounds() {
        for (int round = 0; round < ROUNDS; round++) {
            for (int credential = 0; credential < 41; credential++) {
                show("renewCredential", credential, 1000);
            }
            show("pass", 999);
        }
        nextNumbers();
    }

    private void ends() {
        boolean more = true;
        while (more && broker.callsLeft() > 20) {
            Object time = show("time");
            Object end = show("nextEnd");
            more = !end.equals(SecretBroker.NONE);
            show("pass", more ? (Integer) end - (Integer) time : 1);
        }
        nextNumbers();
    }

    private void revocations() {
        for (int token = 30; token >= 0; token--) {
            show(token % 3 == 0 ? "revokeAlone" : "revoke", token);
            show("credentials");
        }
        nextNumbers();
    }

    private void nextNumbers() {
        show("create", 0, 0, 1, 1, 0);
        show("request", 0, 1);
        show("entries");
    }
}
