/** Compares answers with those that are due, prints the wrong ones, and ends with 1 if there was one. */
final class Checks {
    static final String BAD_NUMBER = "IndexOutOfBoundsException";
    static final String BAD_ARGUMENT = "IllegalArgumentException";
    static final String BAD_STATE = "IllegalStateException";

    interface Call {
        Object answer();
    }

    private int wrong = 0;

    void due(String what, Object got, Object want) {
        if (!want.equals(got)) {
            wrong++;
            System.out.println(what + ": got " + got + ", due is " + want);
        }
    }

    /** What the call answers, or the simple name of what it throws: exactly that class, none below it. */
    static Object outcome(Call call) {
        try {
            return call.answer();
        } catch (RuntimeException thrown) {
            return thrown.getClass().getSimpleName();
        }
    }

    void throwing(String what, String exception, Call call) {
        due(what, outcome(call), exception);
    }

    /** The same, and the call must leave all that one can ask of the broker as it is. */
    void refused(String what, SecretBroker broker, String exception, Call call) {
        String before = look(broker);
        due(what, outcome(call), exception);
        due(what + ", state behind it", look(broker), before);
    }

    /** The last entry as kind, subject and detail, with the number of entries ahead. */
    void entry(String what, SecretBroker broker, int entries, int kind, int subject, int detail) {
        due(what + ", entries", broker.entries(), entries);
        int last = broker.entries() - 1;
        due(what + ", kind", outcome(() -> broker.kindOf(last)), kind);
        due(what + ", subject", outcome(() -> broker.subjectOf(last)), subject);
        due(what + ", detail", outcome(() -> broker.detailOf(last)), detail);
    }

    /** All that can be asked without changing anything, as one text. */
    static String look(SecretBroker broker) {
        StringBuilder text = new StringBuilder();
        text.append(broker.time()).append(' ').append(broker.nextEnd()).append(' ');
        text.append(broker.tokens()).append(' ').append(broker.credentials()).append('\n');
        int[] paths = {1, 2, 11, 12, 122, 123, 1223, 133, 8, 88, 123456, 888888};
        int token = 0;
        for (; Checks.isNumber(outcome(tokenCall(broker, token))); token++) {
            int t = token;
            text.append(" t").append(t).append(broker.isAlive(t)).append(broker.parentOf(t)).append(',');
            text.append(broker.endOf(t)).append(',').append(broker.usesLeft(t)).append(',');
            text.append(broker.below(t)).append(',').append(broker.credentialsOf(t));
            for (int path : paths) {
                text.append(',').append(broker.capabilities(t, path));
                text.append(broker.whyDenied(t, path));
            }
        }
        text.append('\n');
        for (int i = 0; isNumber(outcome(credentialCall(broker, i))); i++) {
            text.append(" c").append(broker.works(i)).append(broker.endOfCredential(i));
        }
        text.append('\n');
        for (int i = 0; i < broker.entries(); i++) {
            text.append(" e").append(broker.kindOf(i)).append(',').append(broker.subjectOf(i));
            text.append(',').append(broker.detailOf(i)).append(',').append(broker.sumOf(i));
        }
        return text.toString();
    }

    private static Call tokenCall(SecretBroker broker, int token) {
        return () -> broker.endOf(token);
    }

    private static Call credentialCall(SecretBroker broker, int credential) {
        return () -> broker.endOfCredential(credential);
    }

    private static boolean isNumber(Object outcome) {
        return outcome instanceof Integer;
    }

    void end(String name) {
        System.out.println(wrong == 0 ? name + ": all as due" : name + ": " + wrong + " not as due");
        if (wrong != 0) {
            System.exit(1);
        }
    }
}
