import java.util.ArrayList;
import java.util.List;
import java.util.TreeMap;
import java.util.stream.IntStream;

/**
 * The document once more, written in another way than the class: texts for paths, objects for tokens,
 * and a recursion where a token ends. It throws what the document names.
 */
final class Model {
    private static final class Rule {
        String pattern;
        boolean open;
        int set;
    }

    private static class Lease {
        int beginning;
        int end;
        int bound;
        boolean alive = true;
    }

    private static final class Token extends Lease {
        Token parent;
        int number;
        int policies;
        Integer uses;
        final List<Token> children = new ArrayList<>();
        final List<Credential> credentials = new ArrayList<>();
    }

    private static final class Credential extends Lease {
        Token token;
        String path;
    }

    private final List<List<Rule>> policies = new ArrayList<>();
    private final TreeMap<String, int[]> mounts = new TreeMap<>();
    private final List<Token> tokens = new ArrayList<>();
    private final List<Credential> credentials = new ArrayList<>();
    private final List<long[]> entries = new ArrayList<>();
    private int now;

    Model() {
        Token root = new Token();
        root.end = Integer.MAX_VALUE;
        tokens.add(root);
    }

    /** As a Broker is asked. */
    Object ask(String call, int... a) {
        return Checks.outcome(() -> answer(call, a));
    }

    private Object answer(String call, int[] a) {
        switch (call) {
            case "policy": return policy();
            case "allow": return allow(a[0], a[1], a[2] != 0, a[3]);
            case "clear": return clear(a[0]);
            case "mount": return mount(a[0], a[1], a[2]);
            case "create": return create(a[0], a[1], a[2], a[3], a[4]);
            case "renew": return renew(a[0], a[1]);
            case "revoke": return revoke(a[0]);
            case "revokeAlone": return revokeAlone(a[0]);
            case "isAlive": return isAlive(a[0]);
            case "parentOf": return parentOf(a[0]);
            case "endOf": return endOf(a[0]);
            case "usesLeft": return usesLeft(a[0]);
            case "below": return below(a[0]);
            case "tokens": return tokens();
            case "capabilities": return capabilities(a[0], a[1]);
            case "request": return request(a[0], a[1]);
            case "whyDenied": return whyDenied(a[0], a[1]);
            case "renewCredential": return renewCredential(a[0], a[1]);
            case "revokeBelow": return revokeBelow(a[0]);
            case "works": return works(a[0]);
            case "endOfCredential": return endOfCredential(a[0]);
            case "credentials": return credentials();
            case "credentialsOf": return credentialsOf(a[0]);
            case "pass": return pass(a[0]);
            case "time": return time();
            case "nextEnd": return nextEnd();
            case "entries": return entries();
            case "kindOf": return kindOf(a[0]);
            case "subjectOf": return subjectOf(a[0]);
            case "detailOf": return detailOf(a[0]);
            case "sumOf": return sumOf(a[0]);
            default: throw new AssertionError("no call " + call);
        }
    }

    int tokensMade() {
        return tokens.size();
    }

    int[] livingTokens() {
        return living(tokens);
    }

    int[] livingCredentials() {
        return living(credentials);
    }

    private static int[] living(List<? extends Lease> leases) {
        return IntStream.range(0, leases.size()).filter(i -> leases.get(i).alive).toArray();
    }

    int credentialsMade() {
        return credentials.size();
    }

    private static void number(boolean right) {
        if (!right) {
            throw new IndexOutOfBoundsException();
        }
    }

    private static void argument(boolean right) {
        if (!right) {
            throw new IllegalArgumentException();
        }
    }

    private static void state(boolean right) {
        if (!right) {
            throw new IllegalStateException();
        }
    }

    private static String path(int path) {
        String text = String.valueOf(path);
        argument(text.matches("[1-8]{1,6}"));
        return text;
    }

    private Token token(int token) {
        number(token >= 0 && token < tokens.size());
        return tokens.get(token);
    }

    private Credential credential(int credential) {
        number(credential >= 0 && credential < credentials.size());
        return credentials.get(credential);
    }

    private List<Rule> rules(int policy) {
        number(policy >= 0 && policy < policies.size());
        return policies.get(policy);
    }

    private long[] entry(int entry) {
        number(entry >= 0 && entry < entries.size());
        return entries.get(entry);
    }

    private static void leaseIsRight(int minutes, int bound) {
        argument(minutes >= 1 && minutes <= 1000 && bound >= minutes && bound <= 5000);
    }

    private void write(int kind, int subject, int detail) {
        long ahead = entries.isEmpty() ? 17 : entries.get(entries.size() - 1)[3];
        long sum = (31 * ahead + 7 * kind + 5 * subject + 3 * detail + now) % 1000003;
        entries.add(new long[] {kind, subject, detail, sum});
    }

    int policy() {
        state(policies.size() < 8);
        policies.add(new ArrayList<>());
        return policies.size() - 1;
    }

    int allow(int policy, int pattern, boolean open, int set) {
        List<Rule> rules = rules(policy);
        String text = String.valueOf(pattern);
        argument(text.matches("[1-9]{1,6}") && set >= 0 && set <= 15);
        for (Rule rule : rules) {
            if (rule.pattern.equals(text) && rule.open == open) {
                rule.set = set;
                return rules.size();
            }
        }
        state(rules.size() < 6);
        Rule rule = new Rule();
        rule.pattern = text;
        rule.open = open;
        rule.set = set;
        rules.add(rule);
        return rules.size();
    }

    int clear(int policy) {
        List<Rule> rules = rules(policy);
        int size = rules.size();
        rules.clear();
        return size;
    }

    int mount(int path, int minutes, int bound) {
        String text = path(path);
        leaseIsRight(minutes, bound);
        state(mounts.containsKey(text) || mounts.size() < 6);
        mounts.put(text, new int[] {minutes, bound});
        return mounts.size();
    }

    int create(int parent, int set, int minutes, int bound, int uses) {
        Token above = token(parent);
        for (int bit = 0; bit < 32; bit++) {
            boolean wanted = (set & 1 << bit) != 0;
            argument(!wanted || bit < policies.size() && (parent == 0 || (above.policies & 1 << bit) != 0));
        }
        leaseIsRight(minutes, bound);
        argument(uses >= 0 && uses <= 100);
        state(above.alive && tokens() < 30);
        Token token = new Token();
        token.parent = above;
        token.number = tokens.size();
        token.policies = set;
        token.uses = uses == 0 ? null : uses;
        token.beginning = now;
        token.end = now + minutes;
        token.bound = bound;
        above.children.add(token);
        tokens.add(token);
        write(0, parent, token.number);
        return token.number;
    }

    private int renewed(Lease lease, int minutes) {
        int end = now + minutes;
        if (end > lease.beginning + lease.bound) {
            end = lease.beginning + lease.bound;
        }
        if (end > lease.end) {
            lease.end = end;
        }
        return lease.end;
    }

    int renew(int token, int minutes) {
        Token its = token(token);
        argument(minutes >= 1 && minutes <= 1000);
        state(token != 0 && its.alive);
        write(1, token, renewed(its, minutes));
        return its.end;
    }

    private int cease(Token token) {
        int ceased = token.alive ? 1 : 0;
        token.alive = false;
        for (Credential credential : token.credentials) {
            ceased += credential.alive ? 1 : 0;
            credential.alive = false;
        }
        for (Token child : token.children) {
            ceased += cease(child);
        }
        return ceased;
    }

    int revoke(int token) {
        Token its = token(token);
        state(token != 0 && its.alive);
        int ceased = cease(its);
        write(4, token, ceased);
        return ceased;
    }

    int revokeAlone(int token) {
        Token its = token(token);
        state(token != 0 && its.alive);
        List<Token> dead = new ArrayList<>();
        for (Token child : its.children) {
            if (child.alive) {
                child.parent = null;
            } else {
                dead.add(child);
            }
        }
        its.children.clear();
        its.children.addAll(dead);
        int ceased = cease(its);
        write(4, token, ceased);
        return ceased;
    }

    boolean isAlive(int token) {
        return token(token).alive;
    }

    int parentOf(int token) {
        Token parent = token(token).parent;
        return parent == null ? -1 : parent.number;
    }

    int endOf(int token) {
        return token(token) == tokens.get(0) ? -1 : token(token).end;
    }

    int usesLeft(int token) {
        Integer uses = token(token).uses;
        return uses == null ? -1 : uses;
    }

    private static int living(Token token) {
        int living = 0;
        for (Token child : token.children) {
            living += living(child) + (child.alive ? 1 : 0);
        }
        return living;
    }

    int below(int token) {
        return living(token(token));
    }

    int tokens() {
        return (int) tokens.stream().filter(token -> token.alive).count();
    }

    private static boolean fits(Rule rule, String path) {
        String pattern = rule.pattern.replace('9', '.');
        return path.matches(rule.open ? pattern + ".*" : pattern);
    }

    private static boolean beats(Rule one, Rule other) {
        if (one.pattern.length() != other.pattern.length()) {
            return one.pattern.length() > other.pattern.length();
        }
        if (one.open != other.open) {
            return !one.open;
        }
        for (int i = 0; i < one.pattern.length(); i++) {
            boolean any = one.pattern.charAt(i) == '9';
            if (any != (other.pattern.charAt(i) == '9')) {
                return !any;
            }
        }
        throw new AssertionError("two rules alike");
    }

    private int at(Token token, String path) {
        if (token == tokens.get(0)) {
            return 7;
        }
        int set = 0;
        for (int policy = 0; policy < policies.size(); policy++) {
            Rule best = null;
            for (Rule rule : policies.get(policy)) {
                if (fits(rule, path) && (best == null || beats(rule, best))) {
                    best = rule;
                }
            }
            boolean has = (token.policies & 1 << policy) != 0;
            set |= has && best != null ? best.set : 0;
        }
        return set >= 8 ? 0 : set;
    }

    int capabilities(int token, int path) {
        Token its = token(token);
        return at(its, path(path));
    }

    private int[] mountOf(String path) {
        int[] found = null;
        for (int length = 1; length <= path.length(); length++) {
            int[] mount = mounts.get(path.substring(0, length));
            found = mount == null ? found : mount;
        }
        return found;
    }

    int whyDenied(int token, int path) {
        Token its = token(token);
        String text = path(path);
        if (!its.alive) {
            return 1;
        }
        if (its.uses != null && its.uses == 0) {
            return 2;
        }
        if (mountOf(text) == null) {
            return 3;
        }
        return at(its, text) % 2 == 1 ? 0 : 4;
    }

    int request(int token, int path) {
        int reason = whyDenied(token, path);
        state(reason != 0 || credentials() < 40);
        Token its = token(token);
        if (its.alive && its.uses != null && its.uses > 0) {
            its.uses--;
        }
        if (reason != 0) {
            write(3, token, reason);
            return -1;
        }
        Credential credential = new Credential();
        int[] mount = mountOf(path(path));
        credential.token = its;
        credential.path = path(path);
        credential.beginning = now;
        credential.end = now + mount[0];
        credential.bound = mount[1];
        its.credentials.add(credential);
        credentials.add(credential);
        write(2, token, credentials.size() - 1);
        return credentials.size() - 1;
    }

    int renewCredential(int credential, int minutes) {
        Credential its = credential(credential);
        argument(minutes >= 1 && minutes <= 1000);
        state(its.alive);
        write(1, its.token.number, renewed(its, minutes));
        return its.end;
    }

    int revokeBelow(int path) {
        String text = path(path);
        int ceased = 0;
        for (Credential credential : credentials) {
            if (credential.alive && credential.path.startsWith(text)) {
                credential.alive = false;
                ceased++;
            }
        }
        write(4, 0, ceased);
        return ceased;
    }

    boolean works(int credential) {
        return credential(credential).alive;
    }

    int endOfCredential(int credential) {
        return credential(credential).end;
    }

    int credentials() {
        return (int) credentials.stream().filter(credential -> credential.alive).count();
    }

    int credentialsOf(int token) {
        return (int) token(token).credentials.stream().filter(credential -> credential.alive).count();
    }

    int pass(int minutes) {
        argument(minutes >= 1 && minutes <= 1000);
        int ceased = 0;
        for (int minute = 0; minute < minutes; minute++) {
            now++;
            for (Token token : tokens) {
                ceased += token.alive && token.end <= now ? cease(token) : 0;
            }
            for (Credential credential : credentials) {
                if (credential.alive && credential.end <= now) {
                    credential.alive = false;
                    ceased++;
                }
            }
        }
        if (ceased > 0) {
            write(5, 0, ceased);
        }
        return ceased;
    }

    int time() {
        return now;
    }

    int nextEnd() {
        List<Lease> leases = new ArrayList<>(credentials);
        leases.addAll(tokens.subList(1, tokens.size()));
        return leases.stream().filter(lease -> lease.alive).mapToInt(lease -> lease.end).min().orElse(-1);
    }

    int entries() {
        return entries.size();
    }

    int kindOf(int entry) {
        return (int) entry(entry)[0];
    }

    int subjectOf(int entry) {
        return (int) entry(entry)[1];
    }

    int detailOf(int entry) {
        return (int) entry(entry)[2];
    }

    long sumOf(int entry) {
        return entry(entry)[3];
    }
}
