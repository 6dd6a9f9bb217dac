/** A broker of short-lived credentials. README.md tells how to use it. */
public final class SecretBroker {
    public static final int NONE = -1;
    public static final int READ = 1, WRITE = 2, LIST = 4, DENY = 8;
    public static final int FINE = 0, ENDED = 1, USED_UP = 2, UNMOUNTED = 3, FORBIDDEN = 4;
    public static final int CREATED = 0, RENEWED = 1, GRANTED = 2, DENIED = 3, REVOKED = 4, EXPIRED = 5;

    // An object is promised for 512 calls, and a call makes at most one token, credential or entry;
    // the root is there ahead of them.
    private static final int ROOM = 513;
    private static final int ROOT = 0;

    private static final int MOST_POLICIES = 8, MOST_RULES = 6, MOST_MOUNTS = 6;
    private static final int MOST_TOKENS = 30, MOST_CREDENTIALS = 40, MOST_USES = 100;
    private static final int MOST_MINUTES = 1000, GREATEST_BOUND = 5000;
    private static final int MOST_DIGITS = 6, GREATEST_NUMBER = 999999;
    private static final int GREATEST_FOLDER = 8, ANY_FOLDER = 9;

    private final Policies policyTable = new Policies();
    private final Mounts mountTable = new Mounts();
    private final Tokens tokenTable = new Tokens();
    private final Credentials credentialTable = new Credentials();
    private final Audit audit = new Audit();
    private int now = 0;

    public SecretBroker() {
    }

    // ---- policies and mounts

    public int policy() throws IllegalStateException {
        if (policyTable.count() >= MOST_POLICIES) {
            throw new IllegalStateException("there are 8 policies");
        }
        return policyTable.add();
    }

    public int allow(int policy, int pattern, boolean open, int capabilities)
            throws IndexOutOfBoundsException, IllegalArgumentException, IllegalStateException {
        checkPolicy(policy);
        if (!Paths.isPattern(pattern)) {
            throw new IllegalArgumentException("no pattern");
        }
        checkRange(capabilities, 0, READ | WRITE | LIST | DENY);
        int rule = policyTable.find(policy, pattern, open);
        if (rule == NONE && policyTable.rulesOf(policy) >= MOST_RULES) {
            throw new IllegalStateException("the policy has 6 rules");
        }
        policyTable.put(policy, pattern, open, capabilities);
        return policyTable.rulesOf(policy);
    }

    public int clear(int policy) throws IndexOutOfBoundsException {
        checkPolicy(policy);
        int rules = policyTable.rulesOf(policy);
        policyTable.empty(policy);
        return rules;
    }

    public int mount(int path, int minutes, int bound)
            throws IllegalArgumentException, IllegalStateException {
        checkPath(path);
        checkLease(minutes, bound);
        if (mountTable.find(path) == NONE && mountTable.count() >= MOST_MOUNTS) {
            throw new IllegalStateException("there are 6 mounts");
        }
        mountTable.put(path, minutes, bound);
        return mountTable.count();
    }

    // ---- tokens

    public int create(int parent, int policies, int minutes, int bound, int uses)
            throws IndexOutOfBoundsException, IllegalArgumentException, IllegalStateException {
        checkToken(parent);
        if (!mayHand(parent, policies)) {
            throw new IllegalArgumentException("a policy that there is not, or that the parent has not");
        }
        checkLease(minutes, bound);
        checkRange(uses, 0, MOST_USES);
        checkAliveToken(parent);
        if (tokenTable.living() >= MOST_TOKENS || tokenTable.isFull()) {
            throw new IllegalStateException("30 tokens are alive");
        }
        int token = tokenTable.add(now, now + minutes, bound);
        tokenTable.describe(token, parent, policies, uses == 0 ? NONE : uses);
        audit.write(CREATED, parent, token, now);
        return token;
    }

    public int renew(int token, int minutes)
            throws IndexOutOfBoundsException, IllegalArgumentException, IllegalStateException {
        checkToken(token);
        checkRange(minutes, 1, MOST_MINUTES);
        checkEndingToken(token);
        tokenTable.prolong(token, now, minutes);
        int end = tokenTable.endAt(token);
        audit.write(RENEWED, token, end, now);
        return end;
    }

    public int revoke(int token) throws IndexOutOfBoundsException, IllegalStateException {
        checkToken(token);
        checkEndingToken(token);
        return endToken(token);
    }

    public int revokeAlone(int token) throws IndexOutOfBoundsException, IllegalStateException {
        checkToken(token);
        checkEndingToken(token);
        tokenTable.freeChildren(token);
        return endToken(token);
    }

    public boolean isAlive(int token) throws IndexOutOfBoundsException {
        checkToken(token);
        return tokenTable.isOn(token);
    }

    public int parentOf(int token) throws IndexOutOfBoundsException {
        checkToken(token);
        return tokenTable.parentAt(token);
    }

    public int endOf(int token) throws IndexOutOfBoundsException {
        checkToken(token);
        return tokenTable.endAt(token);
    }

    public int usesLeft(int token) throws IndexOutOfBoundsException {
        checkToken(token);
        return tokenTable.usesAt(token);
    }

    public int below(int token) throws IndexOutOfBoundsException {
        checkToken(token);
        return tokenTable.livingBelow(token);
    }

    public int tokens() {
        return tokenTable.living();
    }

    public int capabilities(int token, int path)
            throws IndexOutOfBoundsException, IllegalArgumentException {
        checkToken(token);
        checkPath(path);
        return capabilitiesAt(token, path);
    }

    // ---- credentials

    public int request(int token, int path)
            throws IndexOutOfBoundsException, IllegalArgumentException, IllegalStateException {
        checkToken(token);
        checkPath(path);
        int reason = reasonAgainst(token, path);
        if (reason == FINE && (credentialTable.living() >= MOST_CREDENTIALS || credentialTable.isFull())) {
            throw new IllegalStateException("40 credentials are alive");
        }
        tokenTable.takeUse(token);
        if (reason != FINE) {
            audit.write(DENIED, token, reason, now);
            return NONE;
        }
        int credential = give(token, path);
        audit.write(GRANTED, token, credential, now);
        return credential;
    }

    public int whyDenied(int token, int path)
            throws IndexOutOfBoundsException, IllegalArgumentException {
        checkToken(token);
        checkPath(path);
        return reasonAgainst(token, path);
    }

    public int renewCredential(int credential, int minutes)
            throws IndexOutOfBoundsException, IllegalArgumentException, IllegalStateException {
        checkCredential(credential);
        checkRange(minutes, 1, MOST_MINUTES);
        if (!credentialTable.isOn(credential)) {
            throw new IllegalStateException("the credential is not alive");
        }
        credentialTable.prolong(credential, now, minutes);
        int end = credentialTable.endAt(credential);
        audit.write(RENEWED, credentialTable.ownerAt(credential), end, now);
        return end;
    }

    public int revokeBelow(int path) throws IllegalArgumentException {
        checkPath(path);
        int ceased = credentialTable.endBelow(path);
        audit.write(REVOKED, ROOT, ceased, now);
        return ceased;
    }

    public boolean works(int credential) throws IndexOutOfBoundsException {
        checkCredential(credential);
        return credentialTable.isOn(credential);
    }

    public int endOfCredential(int credential) throws IndexOutOfBoundsException {
        checkCredential(credential);
        return credentialTable.endAt(credential);
    }

    public int credentials() {
        return credentialTable.living();
    }

    public int credentialsOf(int token) throws IndexOutOfBoundsException {
        checkToken(token);
        return credentialTable.livingOf(token);
    }

    // ---- time and audit

    public int pass(int minutes) throws IllegalArgumentException {
        checkRange(minutes, 1, MOST_MINUTES);
        now += minutes;
        int ceased = tokenTable.endByTime(now) + credentialTable.endByTime(now);
        ceased += endWhatHungOnTokens();
        if (ceased > 0) {
            audit.write(EXPIRED, ROOT, ceased, now);
        }
        return ceased;
    }

    public int time() {
        return now;
    }

    public int nextEnd() {
        int first = tokenTable.firstEnd();
        int second = credentialTable.firstEnd();
        if (first == NONE || second == NONE) {
            return Math.max(first, second);
        }
        return Math.min(first, second);
    }

    public int entries() {
        return audit.count();
    }

    public int kindOf(int entry) throws IndexOutOfBoundsException {
        checkEntry(entry);
        return audit.kindAt(entry);
    }

    public int subjectOf(int entry) throws IndexOutOfBoundsException {
        checkEntry(entry);
        return audit.subjectAt(entry);
    }

    public int detailOf(int entry) throws IndexOutOfBoundsException {
        checkEntry(entry);
        return audit.detailAt(entry);
    }

    public long sumOf(int entry) throws IndexOutOfBoundsException {
        checkEntry(entry);
        return audit.sumAt(entry);
    }

    // ---- what the calls share

    private void checkPolicy(int policy) {
        if (!policyTable.has(policy)) {
            throw new IndexOutOfBoundsException("no such policy");
        }
    }

    private void checkToken(int token) {
        if (!tokenTable.has(token)) {
            throw new IndexOutOfBoundsException("there never was such a token");
        }
    }

    private void checkCredential(int credential) {
        if (!credentialTable.has(credential)) {
            throw new IndexOutOfBoundsException("there never was such a credential");
        }
    }

    private void checkEntry(int entry) {
        if (!audit.has(entry)) {
            throw new IndexOutOfBoundsException("no such entry");
        }
    }

    private void checkAliveToken(int token) {
        if (!tokenTable.isOn(token)) {
            throw new IllegalStateException("the token is not alive");
        }
    }

    private void checkEndingToken(int token) {
        if (token == ROOT) {
            throw new IllegalStateException("the root has no end");
        }
        checkAliveToken(token);
    }

    private static void checkPath(int path) {
        if (!Paths.isPath(path)) {
            throw new IllegalArgumentException("no path");
        }
    }

    private static void checkLease(int minutes, int bound) {
        checkRange(minutes, 1, MOST_MINUTES);
        checkRange(bound, minutes, GREATEST_BOUND);
    }

    private static void checkRange(int value, int least, int greatest) {
        if (value < least || value > greatest) {
            throw new IllegalArgumentException("out of its range");
        }
    }

    private boolean mayHand(int parent, int policies) {
        if (!policyTable.hasAll(policies)) {
            return false;
        }
        return parent == ROOT || (policies & ~tokenTable.policiesAt(parent)) == 0;
    }

    private int capabilitiesAt(int token, int path) {
        if (token == ROOT) {
            return READ | WRITE | LIST;
        }
        int together = policyTable.together(tokenTable.policiesAt(token), path);
        return (together & DENY) == 0 ? together : 0;
    }

    private int reasonAgainst(int token, int path) {
        if (!tokenTable.isOn(token)) {
            return ENDED;
        }
        if (tokenTable.usesAt(token) == 0) {
            return USED_UP;
        }
        if (mountTable.nearest(path) == NONE) {
            return UNMOUNTED;
        }
        return (capabilitiesAt(token, path) & READ) == 0 ? FORBIDDEN : FINE;
    }

    private int give(int token, int path) {
        int mount = mountTable.nearest(path);
        int end = now + mountTable.minutesAt(mount);
        int credential = credentialTable.add(now, end, mountTable.boundAt(mount));
        credentialTable.describe(credential, token, path);
        return credential;
    }

    private int endToken(int token) {
        int ceased = tokenTable.end(token);
        ceased += endWhatHungOnTokens();
        audit.write(REVOKED, token, ceased, now);
        return ceased;
    }

    private int endWhatHungOnTokens() {
        int ceased = tokenTable.endBelowEnded();
        return ceased + credentialTable.endOfEnded(tokenTable);
    }

    /** Paths and patterns as numbers, read digit by digit. */
    private static final class Paths {
        static boolean isPath(int number) {
            return hasDigits(number, GREATEST_FOLDER);
        }

        static boolean isPattern(int number) {
            return hasDigits(number, ANY_FOLDER);
        }

        private static boolean hasDigits(int number, int greatest) {
            if (number < 1 || number > GREATEST_NUMBER) {
                return false;
            }
            int rest = number;
            for (int i = 0; i < MOST_DIGITS && rest > 0; i++) {
                int digit = rest % 10;
                if (digit < 1 || digit > greatest) {
                    return false;
                }
                rest = rest / 10;
            }
            return true;
        }

        static int length(int number) {
            int length = 0;
            int rest = number;
            for (int i = 0; i < MOST_DIGITS && rest > 0; i++) {
                length++;
                rest = rest / 10;
            }
            return length;
        }

        private static int withoutLast(int number, int digits) {
            int rest = number;
            for (int i = 0; i < digits; i++) {
                rest = rest / 10;
            }
            return rest;
        }

        static boolean isBelow(int path, int upper) {
            int surplus = length(path) - length(upper);
            return surplus >= 0 && withoutLast(path, surplus) == upper;
        }

        static boolean fits(int pattern, boolean open, int path) {
            int surplus = length(path) - length(pattern);
            if (surplus < 0 || surplus > 0 && !open) {
                return false;
            }
            int wanted = pattern;
            int given = withoutLast(path, surplus);
            for (int i = 0; i < MOST_DIGITS && wanted > 0; i++) {
                int digit = wanted % 10;
                if (digit != ANY_FOLDER && digit != given % 10) {
                    return false;
                }
                wanted = wanted / 10;
                given = given / 10;
            }
            return true;
        }
    }

    /** The policies; the rules of policy p stand from p * MOST_RULES on. */
    private static final class Policies {
        private final int[] ruleCounts = new int[MOST_POLICIES];
        private final int[] patterns = new int[MOST_POLICIES * MOST_RULES];
        private final boolean[] opens = new boolean[MOST_POLICIES * MOST_RULES];
        private final int[] sets = new int[MOST_POLICIES * MOST_RULES];
        private int count = 0;

        int count() {
            return count;
        }

        boolean has(int policy) {
            return policy >= 0 && policy < count;
        }

        boolean hasAll(int policies) {
            return policies >= 0 && policies < 1 << count;
        }

        int add() {
            count++;
            return count - 1;
        }

        int rulesOf(int policy) {
            return has(policy) ? ruleCounts[policy] : 0;
        }

        void empty(int policy) {
            if (has(policy)) {
                ruleCounts[policy] = 0;
            }
        }

        int find(int policy, int pattern, boolean open) {
            int first = policy * MOST_RULES;
            int behind = first + rulesOf(policy);
            for (int rule = first; rule < behind; rule++) {
                if (patterns[rule] == pattern && opens[rule] == open) {
                    return rule;
                }
            }
            return NONE;
        }

        void put(int policy, int pattern, boolean open, int set) {
            int rule = find(policy, pattern, open);
            if (rule == NONE) {
                rule = addRule(policy);
            }
            if (rule != NONE) {
                patterns[rule] = pattern;
                opens[rule] = open;
                sets[rule] = set;
            }
        }

        private int addRule(int policy) {
            if (!has(policy) || ruleCounts[policy] >= MOST_RULES) {
                return NONE;
            }
            ruleCounts[policy]++;
            return policy * MOST_RULES + ruleCounts[policy] - 1;
        }

        int together(int policies, int path) {
            int together = 0;
            for (int policy = 0; policy < count; policy++) {
                if ((policies >> policy & 1) != 0) {
                    together |= decided(policy, path);
                }
            }
            return together;
        }

        private int decided(int policy, int path) {
            int first = policy * MOST_RULES;
            int behind = first + rulesOf(policy);
            int deciding = NONE;
            for (int rule = first; rule < behind; rule++) {
                if (Paths.fits(patterns[rule], opens[rule], path)
                        && (deciding == NONE || goesAhead(rule, deciding))) {
                    deciding = rule;
                }
            }
            return deciding == NONE ? 0 : sets[deciding];
        }

        private boolean goesAhead(int rule, int other) {
            int surplus = Paths.length(patterns[rule]) - Paths.length(patterns[other]);
            if (surplus != 0) {
                return surplus > 0;
            }
            if (opens[rule] != opens[other]) {
                return opens[other];
            }
            // Both fit one path, so they differ just where one of them has a 9, and at the first
            // such digit 9 is the greater one.
            return patterns[rule] < patterns[other];
        }
    }

    private static final class Mounts {
        private final int[] paths = new int[MOST_MOUNTS];
        private final int[] minutes = new int[MOST_MOUNTS];
        private final int[] bounds = new int[MOST_MOUNTS];
        private int count = 0;

        int count() {
            return count;
        }

        private boolean has(int mount) {
            return mount >= 0 && mount < count;
        }

        int find(int path) {
            for (int mount = 0; mount < count; mount++) {
                if (paths[mount] == path) {
                    return mount;
                }
            }
            return NONE;
        }

        void put(int path, int itsMinutes, int bound) {
            int mount = find(path);
            if (mount == NONE && count < MOST_MOUNTS) {
                mount = count;
                count++;
            }
            if (mount != NONE) {
                paths[mount] = path;
                minutes[mount] = itsMinutes;
                bounds[mount] = bound;
            }
        }

        int nearest(int path) {
            int nearest = NONE;
            for (int mount = 0; mount < count; mount++) {
                // Of two paths that one path is below, the longer one is the greater number.
                if (Paths.isBelow(path, paths[mount])
                        && (nearest == NONE || paths[mount] > paths[nearest])) {
                    nearest = mount;
                }
            }
            return nearest;
        }

        int minutesAt(int mount) {
            return has(mount) ? minutes[mount] : 0;
        }

        int boundAt(int mount) {
            return has(mount) ? bounds[mount] : 0;
        }
    }

    /** Numbered things that have a lease each. */
    private abstract static class Leased {
        private final int[] beginnings = new int[ROOM];
        private final int[] ends = new int[ROOM];
        private final int[] bounds = new int[ROOM];
        private final boolean[] on = new boolean[ROOM];
        private int made = 0;
        private int living = 0;

        final int made() {
            return made;
        }

        final int living() {
            return living;
        }

        final boolean isFull() {
            return made >= ROOM;
        }

        final boolean has(int number) {
            return number >= 0 && number < made;
        }

        final boolean isOn(int number) {
            return has(number) && on[number];
        }

        final int endAt(int number) {
            return has(number) ? ends[number] : NONE;
        }

        final int add(int beginning, int end, int bound) {
            if (made >= ROOM) {
                return NONE;
            }
            beginnings[made] = beginning;
            ends[made] = end;
            bounds[made] = bound;
            on[made] = true;
            living++;
            made++;
            return made - 1;
        }

        final void prolong(int number, int now, int minutes) {
            if (has(number)) {
                int latest = beginnings[number] + bounds[number];
                ends[number] = Math.max(ends[number], Math.min(now + minutes, latest));
            }
        }

        /** Returns how many cease by that: 1, or 0 for what was not alive. */
        final int end(int number) {
            if (!isOn(number)) {
                return 0;
            }
            on[number] = false;
            living--;
            return 1;
        }

        final int endByTime(int now) {
            int ceased = 0;
            for (int number = 0; number < made; number++) {
                if (ends[number] != NONE && ends[number] <= now) {
                    ceased += end(number);
                }
            }
            return ceased;
        }

        final int firstEnd() {
            int first = NONE;
            for (int number = 0; number < made; number++) {
                if (on[number] && ends[number] != NONE && (first == NONE || ends[number] < first)) {
                    first = ends[number];
                }
            }
            return first;
        }
    }

    private static final class Tokens extends Leased {
        private final int[] parents = new int[ROOM];
        private final int[] policySets = new int[ROOM];
        private final int[] uses = new int[ROOM];

        Tokens() {
            add(0, NONE, 0);
            describe(ROOT, NONE, 0, NONE);
        }

        void describe(int token, int parent, int policies, int itsUses) {
            if (has(token)) {
                parents[token] = parent;
                policySets[token] = policies;
                uses[token] = itsUses;
            }
        }

        int parentAt(int token) {
            return has(token) ? parents[token] : NONE;
        }

        int policiesAt(int token) {
            return has(token) ? policySets[token] : 0;
        }

        int usesAt(int token) {
            return has(token) ? uses[token] : NONE;
        }

        void takeUse(int token) {
            if (isOn(token) && uses[token] > 0) {
                uses[token]--;
            }
        }

        void freeChildren(int token) {
            for (int child = 0; child < made(); child++) {
                if (parents[child] == token && isOn(child)) {
                    parents[child] = NONE;
                }
            }
        }

        int endBelowEnded() {
            int ceased = 0;
            // A parent has a lower number than its children: by the time that a token is looked at,
            // all above it has ended that must, and one round is enough.
            for (int token = 0; token < made(); token++) {
                if (parents[token] != NONE && !isOn(parents[token])) {
                    ceased += end(token);
                }
            }
            return ceased;
        }

        int livingBelow(int token) {
            int living = 0;
            for (int other = 0; other < made(); other++) {
                if (isOn(other) && hangsBelow(other, token)) {
                    living++;
                }
            }
            return living;
        }

        private boolean hangsBelow(int token, int upper) {
            int above = parentAt(token);
            // Parents have lower numbers: once the way up is past the upper one, it does not come back.
            for (int step = 0; step < ROOM && above > upper; step++) {
                above = parentAt(above);
            }
            return above == upper;
        }
    }

    private static final class Credentials extends Leased {
        private final int[] owners = new int[ROOM];
        private final int[] paths = new int[ROOM];

        void describe(int credential, int owner, int path) {
            if (has(credential)) {
                owners[credential] = owner;
                paths[credential] = path;
            }
        }

        int ownerAt(int credential) {
            return has(credential) ? owners[credential] : NONE;
        }

        int livingOf(int owner) {
            int living = 0;
            for (int credential = 0; credential < made(); credential++) {
                if (owners[credential] == owner && isOn(credential)) {
                    living++;
                }
            }
            return living;
        }

        int endBelow(int path) {
            int ceased = 0;
            for (int credential = 0; credential < made(); credential++) {
                if (Paths.isBelow(paths[credential], path)) {
                    ceased += end(credential);
                }
            }
            return ceased;
        }

        int endOfEnded(Tokens tokens) {
            int ceased = 0;
            for (int credential = 0; credential < made(); credential++) {
                if (!tokens.isOn(owners[credential])) {
                    ceased += end(credential);
                }
            }
            return ceased;
        }
    }

    /** The entries; their times are kept in their sums alone, as no call asks for them. */
    private static final class Audit {
        private final int[] kinds = new int[ROOM];
        private final int[] subjects = new int[ROOM];
        private final int[] details = new int[ROOM];
        private final long[] sums = new long[ROOM];
        private int count = 0;

        int count() {
            return count;
        }

        boolean has(int entry) {
            return entry >= 0 && entry < count;
        }

        void write(int kind, int subject, int detail, int time) {
            // Full just behind the last call that is promised, where an entry may be left out.
            if (count >= ROOM) {
                return;
            }
            long ahead = count == 0 ? 17L : sums[count - 1];
            kinds[count] = kind;
            subjects[count] = subject;
            details[count] = detail;
            sums[count] = (31L * ahead + 7L * kind + 5L * subject + 3L * detail + time) % 1000003L;
            count++;
        }

        int kindAt(int entry) {
            return has(entry) ? kinds[entry] : 0;
        }

        int subjectAt(int entry) {
            return has(entry) ? subjects[entry] : 0;
        }

        int detailAt(int entry) {
            return has(entry) ? details[entry] : 0;
        }

        long sumAt(int entry) {
            return has(entry) ? sums[entry] : 0L;
        }
    }
}
