import java.util.HashMap;
import java.util.Map;
import java.util.stream.IntStream;

/** Runs of picked calls: the class and the model must answer alike. Each run ends in questions alone. */
public final class ModelTest {
    private static final int RUNS = 3000;
    private static final int QUESTIONS_FROM = 400;
    private static final Checks CHECKS = new Checks();
    private static final Map<String, Integer> MET = new HashMap<>();

    public static void main(String[] args) {
        for (int run = 0; run < RUNS; run++) {
            int longest = run % 3 == 0 ? 40 : run % 3 == 1 ? 200 : 1000;
            run(run, new Calls(run, run % 2 == 0 ? 200 : 20, longest));
        }
        for (String[] calls : new String[][] {Calls.DEEDS, Calls.QUESTIONS}) {
            for (String call : calls) {
                CHECKS.due(call + " answered", MET.getOrDefault(call + " answers", 0) > 100, true);
            }
        }
        thrown(Checks.BAD_NUMBER, "allow", "clear", "create", "renew", "revoke", "revokeAlone", "isAlive",
                "parentOf", "endOf", "usesLeft", "below", "capabilities", "request", "whyDenied",
                "renewCredential", "works", "endOfCredential", "credentialsOf", "kindOf", "subjectOf",
                "detailOf", "sumOf");
        thrown(Checks.BAD_ARGUMENT, "allow", "mount", "create", "renew", "capabilities", "request", "whyDenied",
                "renewCredential", "revokeBelow", "pass");
        thrown(Checks.BAD_STATE, "policy", "allow", "mount", "create", "renew", "revoke", "revokeAlone",
                "request", "renewCredential");
        CHECKS.end("ModelTest");
    }

    private static void thrown(String exception, String... calls) {
        for (String call : calls) {
            CHECKS.due(call + " threw " + exception, MET.containsKey(call + " " + exception), true);
        }
    }

    private static void run(int run, Calls calls) {
        Broker broker = new Broker();
        Model model = new Model();
        for (int i = 0; i < Broker.PROMISED; i++) {
            boolean atLast = i >= QUESTIONS_FROM;
            String call = i < 6 && run % 4 != 0 ? i < 3 ? "policy" : "mount"
                    : atLast ? calls.question() : calls.call();
            int[] tokens = atLast ? upTo(model.tokensMade()) : model.livingTokens();
            int[] credentials = atLast ? upTo(model.credentialsMade()) : model.livingCredentials();
            int[] arguments = calls.arguments(call, tokens, credentials, model.entries());
            Object want = model.ask(call, arguments);
            CHECKS.due("run " + run + ", call " + i + ", " + Checks.told(call, arguments),
                    broker.ask(call, arguments), want);
            MET.merge(call + " " + (want instanceof String ? want : "answers"), 1, Integer::sum);
        }
    }

    private static int[] upTo(int bound) {
        return IntStream.range(0, bound).toArray();
    }
}
