/** Compares answers with those that are due, prints the wrong ones, and ends with 1 if there was one. */
final class Checks {
    static final String BAD_NUMBER = "IndexOutOfBoundsException";
    static final String BAD_ARGUMENT = "IllegalArgumentException";
    static final String BAD_STATE = "IllegalStateException";

    interface Call {
        Object answer();
    }

    interface Past {
        void live(Broker broker);
    }

    private int wrong = 0;

    static Broker after(Past past) {
        Broker broker = new Broker();
        past.live(broker);
        return broker;
    }

    void due(String what, Object got, Object want) {
        if (!want.equals(got)) {
            wrong++;
            System.out.println(what + ": got " + got + ", due is " + want);
        }
    }

    /** What the call answers, or the simple name of what it throws: exactly that class, none below it. */
    static Object outcome(Call call) {
        try {
            return call.answer();
        } catch (RuntimeException thrown) {
            return thrown.getClass().getSimpleName();
        }
    }

    void throwing(String what, String exception, Call call) {
        due(what, outcome(call), exception);
    }

    static String told(String call, int... arguments) {
        String text = java.util.Arrays.toString(arguments);
        return call + "(" + text.substring(1, text.length() - 1) + ")";
    }

    /** The call, as the next one of a broker with that past, must answer this. */
    void answered(Past past, Object want, String call, int... arguments) {
        due(told(call, arguments), after(past).ask(call, arguments), want);
    }

    /** The call must throw, and change nothing: later calls show what they show of a twin without it. */
    void refused(Past past, String exception, String call, int... arguments) {
        for (int probe = 0; probe < Probes.COUNT; probe++) {
            Broker broker = after(past);
            due(told(call, arguments), broker.ask(call, arguments), exception);
            shownAlike(told(call, arguments), Probes.shown(probe, broker), Probes.shown(probe, after(past)));
        }
    }

    private void shownAlike(String what, String got, String want) {
        String[] gotLines = got.split("\n");
        String[] wantLines = want.split("\n");
        for (int i = 0; i < Math.min(gotLines.length, wantLines.length); i++) {
            if (!gotLines[i].equals(wantLines[i])) {
                due(what + ", shown later", gotLines[i], wantLines[i]);
                return;
            }
        }
        due(what + ", lines shown later", gotLines.length, wantLines.length);
    }

    /** The last entry as kind, subject and detail, and how many entries there are. */
    void entry(String what, Broker broker, int entries, int kind, int subject, int detail) {
        int last = broker.entries() - 1;
        due(what + ", entries", last + 1, entries);
        due(what + ", kind", outcome(() -> broker.kindOf(last)), kind);
        due(what + ", subject", outcome(() -> broker.subjectOf(last)), subject);
        due(what + ", detail", outcome(() -> broker.detailOf(last)), detail);
    }

    void end(String name) {
        System.out.println(wrong == 0 ? name + ": all as due" : name + ": " + wrong + " not as due");
        if (wrong != 0) {
            System.exit(1);
        }
    }
}
