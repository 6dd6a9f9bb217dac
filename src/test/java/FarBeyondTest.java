import java.util.stream.IntStream;

/**
 * Far more calls than are promised, with all sorts of arguments: what they answer is free, but nothing
 * is thrown beside the three exceptions of the document, and none that the machine throws.
 */
public final class FarBeyondTest {
    public static void main(String[] args) {
        Checks checks = new Checks();
        int[] numbers = IntStream.range(0, 520).toArray();
        for (int run = 0; run < 40; run++) {
            Broker broker = new Broker(Integer.MAX_VALUE);
            Calls calls = new Calls(run, run % 2 == 0 ? 3 : 50, run % 4 < 2 ? 20 : 1000);
            for (int i = 0; i < 10000; i++) {
                String call = calls.call();
                int[] arguments = calls.arguments(call, numbers, numbers, broker.entries());
                Object outcome = broker.ask(call, arguments);
                boolean fine = !(outcome instanceof String) || outcome.equals(Checks.BAD_NUMBER)
                        || outcome.equals(Checks.BAD_ARGUMENT) || outcome.equals(Checks.BAD_STATE);
                checks.due("run " + run + ", call " + i + ", " + Checks.told(call, arguments) + ": " + outcome,
                        fine, true);
            }
        }
        passTillTheTimeTurns(checks);
        checks.end("FarBeyondTest");
    }

    private static void passTillTheTimeTurns(Checks checks) {
        Broker broker = new Broker(Integer.MAX_VALUE);
        broker.mount(1, 1000, 5000);
        for (int i = 0; i < 2200000; i++) {
            broker.pass(1000);
        }
        checks.due("a number for request", broker.ask("request", 0, 1) instanceof Integer, true);
        checks.due("a number for entries", broker.entries() >= 0, true);
    }
}
