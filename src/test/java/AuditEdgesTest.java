/** Promises 25 to 32, each sentence at its edges. */
public final class AuditEdgesTest {
    private static final Checks CHECKS = new Checks();
    private static final String BAD_NUMBER = Checks.BAD_NUMBER, BAD_ARGUMENT = Checks.BAD_ARGUMENT;
    private static final int LEAST = Integer.MIN_VALUE, MOST = Integer.MAX_VALUE, NONE = SecretBroker.NONE;
    private static final String[] OF_ENTRIES = {"kindOf", "subjectOf", "detailOf", "sumOf"};

    public static void main(String[] args) {
        passNeeds1To1000Minutes();
        passCountsTokensAndCredentials();
        expiredIsWrittenIfSomeCease();
        expiredIsNotWrittenIfNoneCease();
        expiredIsWrittenBehindIt();
        timeIsTheSumOfWhatPassed();
        nextEndIsTheEarliestOfThoseAlive();
        nextEndIsTheFirstMinuteWithoutOne();
        entriesAreNumberedFrom0();
        entriesNeedANumberThatThereIs();
        everyKindOfEntry();
        sumsBeginWith17();
        sumsWrapAround();
        sumsTakeTheTimeOfWriting();
        otherCallsWriteNothing();
        anObjectIsUsedFor512Calls();
        CHECKS.end("AuditEdgesTest");
    }

    /** Promise 25: 'minutes: 1 to 1000', 'Throws IllegalArgumentException if minutes is out of its range'. */
    private static void passNeeds1To1000Minutes() {
        for (int minutes : new int[] {0, 1001, -1, LEAST, MOST}) {
            CHECKS.refused(Pasts::nothing, BAD_ARGUMENT, "pass", minutes);
            CHECKS.refused(Pasts::lived, BAD_ARGUMENT, "pass", minutes);
            CHECKS.refused(Pasts::full, BAD_ARGUMENT, "pass", minutes);
        }
        for (int minutes : new int[] {1, 2, 999, 1000}) {
            Broker broker = new Broker();
            CHECKS.due("pass " + minutes, broker.ask("pass", minutes), 0);
            CHECKS.due("time", broker.time(), minutes);
        }
    }

    /** Promise 25: 'Returns how many tokens and credentials cease to be alive, together.' */
    private static void passCountsTokensAndCredentials() {
        int[][] due = {{1, 0}, {4, 0}, {5, 3}, {14, 3}, {15, 4}, {74, 4}, {75, 5}, {394, 5}, {395, 6},
            {494, 6}, {495, 7}, {994, 7}, {995, 9}, {1000, 9}};
        for (int[] its : due) {
            CHECKS.answered(Pasts::lived, its[1], "pass", its[0]);
        }
        CHECKS.answered(Pasts::full, 0, "pass", 99);
        CHECKS.answered(Pasts::full, 7, "pass", 100);
        CHECKS.answered(Pasts::full, 29 + 40, "pass", 101);
        CHECKS.answered(Pasts::full, 29 + 40, "pass", 1000);
    }

    /** Promise 25: 'If tokens or credentials cease to be alive by that, EXPIRED is written behind it with the
     * root as the subject and what is returned as the detail.' */
    private static void expiredIsWrittenIfSomeCease() {
        Broker token = new Broker();
        token.create(0, 0, 5, 5, 0);
        token.pass(5);
        CHECKS.entry("a token alone", token, 2, SecretBroker.EXPIRED, 0, 1);
        Broker credential = new Broker();
        credential.mount(1, 5, 5);
        credential.request(0, 1);
        credential.pass(5);
        CHECKS.entry("a credential alone", credential, 2, SecretBroker.EXPIRED, 0, 1);
        Broker broker = Checks.after(Pasts::lived);
        broker.pass(1000);
        CHECKS.entry("both", broker, 20, SecretBroker.EXPIRED, 0, 9);
        Broker full = Checks.after(Pasts::full);
        full.pass(1000);
        CHECKS.entry("all", full, 70, SecretBroker.EXPIRED, 0, 69);
    }

    /** The other way round: nothing is written, nor for the ends of what had ceased already. */
    private static void expiredIsNotWrittenIfNoneCease() {
        Broker broker = new Broker();
        broker.mount(1, 5, 5);
        broker.create(0, 0, 5, 5, 0);
        broker.create(0, 0, 6, 6, 0);
        broker.create(1, 0, 7, 7, 0);
        broker.request(0, 1);
        CHECKS.due("ahead of all ends", broker.ask("pass", 4), 0);
        CHECKS.due("nothing written", broker.entries(), 4);
        broker.revoke(1);
        broker.revokeAlone(2);
        broker.revokeBelow(1);
        for (int i = 0; i < 4; i++) {
            CHECKS.due("ends of the dead", broker.ask("pass", 1), 0);
        }
        CHECKS.due("nothing more", broker.entries(), 7);
    }

    /** 'written behind it': its time is the one to which the minutes lead. */
    private static void expiredIsWrittenBehindIt() {
        Broker broker = new Broker();
        broker.create(0, 0, 5, 5, 0);
        broker.pass(3);
        broker.pass(1000);
        long first = 31 * 17 + 3;
        CHECKS.due("the sum ahead", broker.sumOf(0), first);
        CHECKS.due("its sum", broker.sumOf(1), (31 * first + 7 * 5 + 3 + 1003) % 1000003);
    }

    /** Promise 26, and 'The time is 0 at first, in minutes'. */
    private static void timeIsTheSumOfWhatPassed() {
        CHECKS.answered(Pasts::nothing, 0, "time");
        CHECKS.answered(Pasts::lived, 5, "time");
        CHECKS.answered(Pasts::full, 0, "time");
        Broker broker = new Broker();
        for (int i = 0; i < 511; i++) {
            broker.pass(1000);
        }
        CHECKS.due("the latest time that can be told", broker.time(), 511000);
    }

    /** Promise 27: 'the earliest end of all tokens and credentials that are alive', 'NONE if nothing that is
     * alive has an end'. */
    private static void nextEndIsTheEarliestOfThoseAlive() {
        CHECKS.answered(Pasts::nothing, NONE, "nextEnd");
        CHECKS.answered(Pasts::lived, 10, "nextEnd");
        CHECKS.answered(Pasts::full, 100, "nextEnd");
        int[][] pairs = {{5, 6}, {6, 5}, {5, 5}, {1, 1000}, {1000, 1}};
        for (int[] pair : pairs) {
            Broker broker = new Broker();
            broker.mount(1, pair[1], 5000);
            broker.mount(2, 1000, 5000);
            broker.create(0, 0, pair[0], 5000, 0);
            CHECKS.due("a token alone", broker.nextEnd(), pair[0]);
            broker.request(0, 1);
            broker.request(0, 2);
            CHECKS.due("the earlier", broker.nextEnd(), Math.min(pair[0], pair[1]));
            broker.revoke(1);
            CHECKS.due("a credential alone", broker.nextEnd(), pair[1]);
            broker.revokeBelow(1);
            CHECKS.due("the last one", broker.nextEnd(), 1000);
            broker.revokeBelow(2);
            CHECKS.due("the dead have none that counts", broker.nextEnd(), NONE);
        }
        Broker broker = new Broker();
        broker.create(0, 0, 5, 90, 0);
        broker.create(0, 0, 7, 90, 0);
        broker.renew(1, 8);
        CHECKS.due("renewed", broker.nextEnd(), 7);
        broker.renew(2, 9);
        CHECKS.due("renewed, too", broker.nextEnd(), 8);
        broker.revokeAlone(1);
        CHECKS.due("alone", broker.nextEnd(), 9);
    }

    /** The same against pass(): up to a minute ahead of the next end nothing ceases, and at it something. */
    private static void nextEndIsTheFirstMinuteWithoutOne() {
        Broker broker = Checks.after(Pasts::lived);
        int[] due = {10, 20, 80, 400, 500, 1000};
        for (int end : due) {
            CHECKS.due("next", broker.nextEnd(), end);
            if (end - broker.time() > 1) {
                CHECKS.due("a minute ahead of it", broker.ask("pass", end - broker.time() - 1), 0);
            }
            CHECKS.due("still next", broker.nextEnd(), end);
            CHECKS.due("at it", (Integer) broker.ask("pass", 1) > 0, true);
        }
        CHECKS.due("none is left", broker.nextEnd(), NONE);
        CHECKS.due("but the root", broker.tokens() + broker.credentials(), 1);
    }

    /** 'Entries are numbered from 0.' */
    private static void entriesAreNumberedFrom0() {
        CHECKS.answered(Pasts::nothing, 0, "entries");
        CHECKS.answered(Pasts::lived, 19, "entries");
        CHECKS.answered(Pasts::full, 69, "entries");
        Object[] first = {SecretBroker.CREATED, 0, 1, 31L * 17 + 3};
        for (int i = 0; i < OF_ENTRIES.length; i++) {
            CHECKS.answered(Pasts::lived, first[i], OF_ENTRIES[i], 0);
        }
        Object[] last = {SecretBroker.REVOKED, 0, 1};
        for (int i = 0; i < last.length; i++) {
            CHECKS.answered(Pasts::lived, last[i], OF_ENTRIES[i], 18);
        }
    }

    /** Promises 29 to 32: 'Throws IndexOutOfBoundsException if there is no such entry'. */
    private static void entriesNeedANumberThatThereIs() {
        for (String call : OF_ENTRIES) {
            CHECKS.refused(Pasts::nothing, BAD_NUMBER, call, 0);
            CHECKS.refused(Pasts::nothing, BAD_NUMBER, call, -1);
            for (int entry : new int[] {-1, 19, 20, 511, 512, 513, LEAST, MOST}) {
                CHECKS.refused(Pasts::lived, BAD_NUMBER, call, entry);
            }
            CHECKS.refused(Pasts::full, BAD_NUMBER, call, 69);
        }
    }

    /** Each kind with its subject and detail, in the order in which they were written. */
    private static void everyKindOfEntry() {
        int[][] due = {{0, 0, 1}, {0, 1, 2}, {0, 2, 3}, {0, 0, 4}, {0, 4, 5}, {0, 1, 6}, {0, 6, 7}, {0, 0, 8},
            {2, 1, 0}, {2, 2, 1}, {2, 3, 2}, {2, 4, 3}, {2, 0, 4}, {2, 7, 5}, {2, 0, 6}, {5, 0, 3}, {4, 6, 1},
            {4, 8, 1}, {4, 0, 1}, {1, 1, 1005}, {3, 3, 2}, {1, 7, 12}};
        Broker broker = Checks.after(Pasts::lived);
        broker.renew(1, 1000);
        broker.request(3, 1);
        broker.renewCredential(5, 7);
        CHECKS.due("entries", broker.entries(), due.length);
        long sum = 17;
        for (int i = 0; i < due.length; i++) {
            sum = (31 * sum + 7 * due[i][0] + 5 * due[i][1] + 3 * due[i][2] + (i < 15 ? 0 : 5)) % 1000003;
            Object[] its = {due[i][0], due[i][1], due[i][2], sum};
            for (int j = 0; j < its.length; j++) {
                CHECKS.due(OF_ENTRIES[j] + " " + i, broker.ask(OF_ENTRIES[j], i), its[j]);
            }
        }
    }

    /** 's is the sum of the entry ahead of it, 17 for the entry 0'. */
    private static void sumsBeginWith17() {
        Broker broker = new Broker();
        broker.revokeBelow(1);
        CHECKS.due("REVOKED, 0, 0 at 0", broker.sumOf(0), 555L);
        broker.revokeBelow(1);
        CHECKS.due("the next", broker.sumOf(1), 17233L);
        broker.revokeBelow(1);
        CHECKS.due("the third", broker.sumOf(2), 534251L);
        broker.revokeBelow(1);
        CHECKS.due("the fourth", broker.sumOf(3), 561761L);
    }

    /** '% 1000003', just below, at and just above it: the times are chosen so that the third sum meets it. */
    private static void sumsWrapAround() {
        long[] due = {1000002, 0, 1};
        for (int i = 0; i < 3; i++) {
            Broker broker = new Broker();
            broker.pass(467);
            broker.request(0, 1);
            broker.request(0, 1);
            broker.pass(34 + i);
            broker.request(0, 1);
            broker.request(0, 1);
            CHECKS.due("the first", broker.sumOf(0), 1024L);
            CHECKS.due("the second", broker.sumOf(1), 32241L);
            CHECKS.due("the third", broker.sumOf(2), due[i]);
            CHECKS.due("the fourth", broker.sumOf(3), (31 * due[i] + 30 + 501 + i) % 1000003);
        }
    }

    /** 'and the time at which it was written', for each call that writes. */
    private static void sumsTakeTheTimeOfWriting() {
        String[] calls = {"create", "renew", "revoke", "revokeAlone", "request", "request", "renewCredential",
            "revokeBelow"};
        int[][] arguments = {{0, 0, 1, 1, 0}, {1, 1}, {7}, {3}, {0, 2}, {0, 8}, {4, 1}, {8}};
        int[][] due = {{0, 0, 9}, {1, 1, 1000}, {4, 7, 1}, {4, 3, 1}, {2, 0, 7}, {3, 0, 3}, {1, 0, 1000},
            {4, 0, 0}};
        for (int i = 0; i < calls.length; i++) {
            Broker broker = Checks.after(Pasts::lived);
            broker.pass(60);
            int last = broker.entries();
            long ahead = broker.sumOf(last - 1);
            broker.ask(calls[i], arguments[i]);
            CHECKS.entry(calls[i], broker, last + 1, due[i][0], due[i][1], due[i][2]);
            CHECKS.due("sum of " + calls[i], broker.sumOf(last),
                    (31 * ahead + 7 * due[i][0] + 5 * due[i][1] + 3 * due[i][2] + 65) % 1000003);
        }
    }

    /** 'Calls write entries just where it is told.' */
    private static void otherCallsWriteNothing() {
        int[][] pairs = {{0, 1}, {3, 8}, {8, 1}};
        Broker broker = Checks.after(Pasts::lived);
        for (int[] pair : pairs) {
            broker.ask("whyDenied", pair);
            broker.ask("capabilities", pair);
        }
        broker.ask("policy");
        broker.ask("allow", 0, 5, 1, 1);
        broker.ask("allow", 0, 5, 1, 2);
        broker.ask("clear", 0);
        broker.ask("mount", 8, 1, 1);
        broker.ask("mount", 1, 1, 1);
        for (String call : new String[] {"tokens", "credentials", "time", "nextEnd", "entries"}) {
            broker.ask(call);
        }
        String[] numbered = {"isAlive", "parentOf", "endOf", "usesLeft", "below", "works", "endOfCredential",
            "credentialsOf", "kindOf", "subjectOf", "detailOf", "sumOf"};
        for (String call : numbered) {
            for (int number = 0; number < 7; number++) {
                broker.ask(call, number);
            }
        }
        broker.ask("pass", 4);
        CHECKS.due("entries", broker.entries(), 19);
    }

    /** 'An object is used for at most 512 calls': each call may make a token, a credential or an entry. */
    private static void anObjectIsUsedFor512Calls() {
        Broker tokens = new Broker();
        for (int token = 1; token <= 495; token++) {
            CHECKS.due("token " + token, tokens.ask("create", 0, 0, 1, 1, 0), token);
            if (token % 29 == 0) {
                CHECKS.due("all end", tokens.ask("pass", 1), 29);
            }
        }
        CHECKS.due("calls left", tokens.callsLeft(), 0);
        Broker credentials = new Broker();
        credentials.mount(1, 1, 1);
        for (int credential = 0; credential < 499; credential++) {
            CHECKS.due("credential " + credential, credentials.ask("request", 0, 1), credential);
            if (credential % 40 == 39) {
                CHECKS.due("all end", credentials.ask("pass", 1), 40);
            }
        }
        CHECKS.due("calls left", credentials.callsLeft(), 0);
        Broker entries = new Broker();
        for (int i = 0; i < 511; i++) {
            CHECKS.due("denied", entries.ask("request", 0, 1), NONE);
        }
        CHECKS.due("entries", entries.entries(), 511);
        CHECKS.due("calls left", entries.callsLeft(), 0);
    }
}
