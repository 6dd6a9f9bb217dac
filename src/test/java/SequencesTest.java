/**
 * Each order in which a few deeds can follow one another, on a small tree: the class and the model must
 * answer alike. Where ModelTest goes far at random, this leaves out nothing that is near.
 */
public final class SequencesTest {
    private static final Checks CHECKS = new Checks();
    private static final int LENGTH = 4;
    private static final String[] OF_THE_BROKER = {"tokens", "credentials", "nextEnd", "time", "entries"};
    private static final String[] OF_A_TOKEN = {"isAlive", "parentOf", "endOf", "usesLeft", "below",
        "credentialsOf"};

    private record Deed(String call, int... arguments) {
    }

    /** Tokens 1 below the root and 2 below 1, with one use left; credentials 0 of 1 and 1 of 2; time 1. */
    private static final Deed[] TREE = {
        new Deed("policy"), new Deed("allow", 0, 1, 1, SecretBroker.READ), new Deed("mount", 1, 3, 5),
        new Deed("create", 0, 1, 4, 6, 0), new Deed("create", 1, 1, 3, 9, 2), new Deed("request", 1, 1),
        new Deed("request", 2, 12), new Deed("pass", 1)};

    private static final Deed[] ON_THE_TREE = {
        new Deed("create", 1, 1, 5, 5, 0), new Deed("create", 2, 0, 2, 3, 1), new Deed("renew", 1, 4),
        new Deed("renew", 2, 5), new Deed("revoke", 1), new Deed("revoke", 2), new Deed("revokeAlone", 1),
        new Deed("revokeAlone", 2), new Deed("revokeAlone", 3), new Deed("request", 1, 11),
        new Deed("request", 2, 12), new Deed("request", 3, 1), new Deed("renewCredential", 0, 9),
        new Deed("renewCredential", 1, 1), new Deed("revokeBelow", 12), new Deed("pass", 1),
        new Deed("pass", 2)};

    /** One policy, one token that has it, and rules and mounts that come and go. */
    private static final Deed[] RULED = {
        new Deed("policy"), new Deed("policy"), new Deed("mount", 1, 2, 4), new Deed("create", 0, 3, 9, 9, 2)};

    private static final Deed[] ON_THE_RULED = {
        new Deed("allow", 0, 1, 1, 1), new Deed("allow", 0, 1, 0, 2), new Deed("allow", 0, 9, 1, 4),
        new Deed("allow", 0, 12, 1, 3), new Deed("allow", 0, 19, 1, 8), new Deed("allow", 1, 12, 0, 5),
        new Deed("allow", 1, 92, 0, 8), new Deed("clear", 0), new Deed("clear", 1), new Deed("mount", 1, 3, 3),
        new Deed("mount", 12, 1, 6), new Deed("mount", 2, 1, 1), new Deed("request", 1, 1),
        new Deed("request", 1, 12), new Deed("request", 0, 22), new Deed("renewCredential", 0, 5),
        new Deed("pass", 1)};

    public static void main(String[] args) {
        all(TREE, ON_THE_TREE);
        all(RULED, ON_THE_RULED);
        CHECKS.end("SequencesTest");
    }

    private static void all(Deed[] past, Deed[] deeds) {
        int count = 1;
        for (int i = 0; i < LENGTH; i++) {
            count *= deeds.length;
        }
        for (int sequence = 0; sequence < count; sequence++) {
            Deed[] chosen = new Deed[LENGTH];
            int rest = sequence;
            for (int i = 0; i < LENGTH; i++) {
                chosen[i] = deeds[rest % deeds.length];
                rest /= deeds.length;
            }
            sequence(past, chosen);
        }
    }

    private static void sequence(Deed[] past, Deed[] chosen) {
        Broker broker = new Broker();
        Model model = new Model();
        StringBuilder told = new StringBuilder();
        for (Deed deed : past) {
            alike(told, broker, model, deed.call, deed.arguments);
        }
        for (Deed deed : chosen) {
            alike(told, broker, model, deed.call, deed.arguments);
        }
        questions(told, broker, model);
    }

    private static void alike(StringBuilder told, Broker broker, Model model, String call, int... arguments) {
        Object want = model.ask(call, arguments);
        Object got = broker.ask(call, arguments);
        told.append(' ').append(call);
        for (int argument : arguments) {
            told.append(' ').append(argument);
        }
        if (!want.equals(got)) {
            CHECKS.due(told.toString(), got, want);
        }
    }

    /** The last sum holds all entries, their kinds, subjects, details and times. */
    private static void questions(StringBuilder told, Broker broker, Model model) {
        told.append(" |");
        for (String call : OF_THE_BROKER) {
            alike(told, broker, model, call);
        }
        alike(told, broker, model, "sumOf", model.entries() - 1);
        for (int token = 0; token < model.tokensMade(); token++) {
            for (String call : OF_A_TOKEN) {
                alike(told, broker, model, call, token);
            }
            alike(told, broker, model, "capabilities", token, 12);
            alike(told, broker, model, "whyDenied", token, 1);
        }
        for (int credential = 0; credential < model.credentialsMade(); credential++) {
            alike(told, broker, model, "works", credential);
            alike(told, broker, model, "endOfCredential", credential);
        }
    }
}
