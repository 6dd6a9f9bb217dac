/** Runs of picked calls: the class and the model must answer alike, and stand alike behind each call. */
public final class ModelTest {
    private static final int RUNS = 1500;
    private static final Checks CHECKS = new Checks();
    private static final int[] DEEDS = new int[Calls.KINDS * 4];

    public static void main(String[] args) {
        for (int run = 0; run < RUNS; run++) {
            int longest = run % 3 == 0 ? 40 : run % 3 == 1 ? 200 : 1000;
            run(run, new Calls(run, run % 2 == 0 ? 200 : 20, longest));
        }
        for (int kind = 0; kind < Calls.KINDS; kind++) {
            CHECKS.due("call " + kind + " answered at least once", DEEDS[kind * 4] > 0, true);
        }
        CHECKS.end("ModelTest");
    }

    private static void run(int run, Calls calls) {
        SecretBroker broker = new SecretBroker();
        Model model = new Model();
        for (int i = 0; i < 512; i++) {
            int kind = i < 6 && run % 4 != 0 ? i / 3 * 3 : calls.kind();
            int[] arguments = arguments(kind, calls, model.livingTokens(), model.livingCredentials(),
                    model.entries());
            Object got = Checks.outcome(() -> asked(broker, kind, arguments));
            Object want = Checks.outcome(() -> asked(model, kind, arguments));
            CHECKS.due("run " + run + ", call " + i + ", " + told(kind, arguments), got, want);
            DEEDS[kind * 4 + deed(want)]++;
        }
        sameState(run, broker, model);
    }

    private static int deed(Object outcome) {
        return outcome.equals(Checks.BAD_NUMBER) ? 1 : outcome.equals(Checks.BAD_ARGUMENT) ? 2
                : outcome.equals(Checks.BAD_STATE) ? 3 : 0;
    }

    private static String told(int kind, int[] arguments) {
        return "kind " + kind + " of " + java.util.Arrays.toString(arguments);
    }

    /** Of tokens and credentials, mostly one of those named is taken, so that the deeds meet what is alive. */
    static int[] arguments(int kind, Calls calls, int[] tokens, int[] credentials, int entries) {
        int token = calls.among(tokens);
        int credential = calls.among(credentials);
        switch (kind) {
            case 1:
                return new int[] {calls.between(0, 3), calls.path(9), calls.below(2), calls.ruleSet()};
            case 2:
                return new int[] {calls.between(0, 30)};
            case 3:
                int longest = calls.minutes();
                return new int[] {calls.path(8), calls.between(1, longest > 0 && longest < 999 ? longest : 3),
                    longest};
            case 5:
                int minutes = calls.minutes();
                int most = minutes > 0 && minutes < 1001 ? minutes * 3 : 5;
                return new int[] {token, calls.policies(token == 0), minutes,
                    calls.between(minutes < most ? minutes : 1, most),
                    calls.below(3) == 0 ? calls.between(0, 9) : calls.between(0, 0)};
            case 6: case 18:
                return new int[] {kind == 6 ? token : credential, calls.minutes()};
            case 14: case 15: case 16:
                return new int[] {token, calls.path(8)};
            case 19:
                return new int[] {calls.path(8) * (calls.below(3) == 0 ? 1 : 10) + 1};
            case 20: case 21:
                return new int[] {credential};
            case 24:
                return new int[] {calls.steps()};
            case 28: case 29: case 30: case 27:
                return new int[] {calls.between(0, entries)};
            default:
                return new int[] {token};
        }
    }

    static Object asked(SecretBroker x, int kind, int[] a) {
        switch (kind) {
            case 0: return x.policy();
            case 1: return x.allow(a[0], a[1], a[2] == 1, a[3]);
            case 2: return x.clear(a[0]);
            case 3: return x.mount(a[0], a[1], a[2]);
            case 4: return x.tokens();
            case 5: return x.create(a[0], a[1], a[2], a[3], a[4]);
            case 6: return x.renew(a[0], a[1]);
            case 7: return x.revoke(a[0]);
            case 8: return x.revokeAlone(a[0]);
            case 9: return x.isAlive(a[0]);
            case 10: return x.parentOf(a[0]);
            case 11: return x.endOf(a[0]);
            case 12: return x.usesLeft(a[0]);
            case 13: return x.below(a[0]);
            case 14: return x.capabilities(a[0], a[1]);
            case 15: return x.request(a[0], a[1]);
            case 16: return x.whyDenied(a[0], a[1]);
            case 17: return x.credentialsOf(a[0]);
            case 18: return x.renewCredential(a[0], a[1]);
            case 19: return x.revokeBelow(a[0]);
            case 20: return x.works(a[0]);
            case 21: return x.endOfCredential(a[0]);
            case 22: return x.credentials();
            case 23: return x.time();
            case 24: return x.pass(a[0]);
            case 25: return x.nextEnd();
            case 26: return x.entries();
            case 27: return x.kindOf(a[0]);
            case 28: return x.subjectOf(a[0]);
            case 29: return x.detailOf(a[0]);
            default: return x.sumOf(a[0]);
        }
    }

    private static Object asked(Model x, int kind, int[] a) {
        switch (kind) {
            case 0: return x.policy();
            case 1: return x.allow(a[0], a[1], a[2] == 1, a[3]);
            case 2: return x.clear(a[0]);
            case 3: return x.mount(a[0], a[1], a[2]);
            case 4: return x.tokens();
            case 5: return x.create(a[0], a[1], a[2], a[3], a[4]);
            case 6: return x.renew(a[0], a[1]);
            case 7: return x.revoke(a[0]);
            case 8: return x.revokeAlone(a[0]);
            case 9: return x.isAlive(a[0]);
            case 10: return x.parentOf(a[0]);
            case 11: return x.endOf(a[0]);
            case 12: return x.usesLeft(a[0]);
            case 13: return x.below(a[0]);
            case 14: return x.capabilities(a[0], a[1]);
            case 15: return x.request(a[0], a[1]);
            case 16: return x.whyDenied(a[0], a[1]);
            case 17: return x.credentialsOf(a[0]);
            case 18: return x.renewCredential(a[0], a[1]);
            case 19: return x.revokeBelow(a[0]);
            case 20: return x.works(a[0]);
            case 21: return x.endOfCredential(a[0]);
            case 22: return x.credentials();
            case 23: return x.time();
            case 24: return x.pass(a[0]);
            case 25: return x.nextEnd();
            case 26: return x.entries();
            case 27: return x.kindOf(a[0]);
            case 28: return x.subjectOf(a[0]);
            case 29: return x.detailOf(a[0]);
            default: return x.sumOf(a[0]);
        }
    }

    private static void sameState(int run, SecretBroker broker, Model model) {
        int[] lone = {4, 22, 23, 25, 26};
        for (int kind : lone) {
            same(run, kind, broker, model);
        }
        for (int token = 0; token < model.tokensMade() + 2; token++) {
            for (int kind : new int[] {9, 10, 11, 12, 13, 17}) {
                same(run, kind, broker, model, token);
            }
            same(run, 14, broker, model, token, 1 + token % 2);
            same(run, 16, broker, model, token, 121);
        }
        int numbers = Math.max(model.credentialsMade(), model.entries()) + 2;
        for (int number = 0; number < numbers; number++) {
            for (int kind : new int[] {20, 21, 27, 28, 29, 30}) {
                same(run, kind, broker, model, number);
            }
        }
    }

    private static void same(int run, int kind, SecretBroker broker, Model model, int... arguments) {
        CHECKS.due("run " + run + ", at the end, " + told(kind, arguments),
                Checks.outcome(() -> asked(broker, kind, arguments)),
                Checks.outcome(() -> asked(model, kind, arguments)));
    }
}
