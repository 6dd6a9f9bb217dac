import java.util.ArrayList;
import java.util.Arrays;
import java.util.List;

/** What the terms say of paths, patterns, rules and sets of policies, each sentence at its edges. */
public final class PathEdgesTest {
    private static final Checks CHECKS = new Checks();
    private static final int READ = SecretBroker.READ, WRITE = SecretBroker.WRITE;

    public static void main(String[] args) {
        pathsAreOneToSixDigits();
        patternsMayHaveNines();
        belowBeginsWithTheDigits();
        closedRulesFitAsManyDigits();
        openRulesFitAsManyDigitsOrMore();
        nineStandsForAnyOneFolder();
        mostDigitsThenClosedThenNoNineDecides();
        manyRulesInEachOrder();
        theDecidingRuleDecidesAlone();
        aSetIsASumOfPolicies();
        togetherButNoneWithDeny();
        CHECKS.end("PathEdgesTest");
    }

    /** All numbers of the least to the most digits out of these, 0 not ahead. */
    private static List<Integer> numbers(String digits, int most) {
        List<Integer> found = new ArrayList<>();
        found.add(0);
        for (int i = 0; i < found.size(); i++) {
            for (char digit : digits.toCharArray()) {
                int next = found.get(i) * 10 + digit - '0';
                if (next > 0 && String.valueOf(next).length() <= most) {
                    found.add(next);
                }
            }
        }
        found.remove(0);
        return found;
    }

    private static List<Integer> numbersAtEdges() {
        List<Integer> found = numbers("0189", 7);
        int count = found.size();
        for (int i = 0; i < count; i++) {
            found.add(-found.get(i));
        }
        int[] more = {0, 2, 3, 4, 5, 6, 7, 234567, 2345678, 1111111111, 2111111111, 1 << 30,
            Integer.MIN_VALUE, Integer.MIN_VALUE + 1, Integer.MAX_VALUE};
        for (int number : more) {
            found.add(number);
        }
        return found;
    }

    /** 'A path is a number of 1 to 6 digits from 1 to 8', for each call that takes one. */
    private static void pathsAreOneToSixDigits() {
        String[] calls = {"mount", "capabilities", "request", "whyDenied", "revokeBelow"};
        for (int number : numbersAtEdges()) {
            boolean path = String.valueOf(number).matches("[1-8]{1,6}");
            Object[] due = {1, 7, SecretBroker.NONE, SecretBroker.UNMOUNTED, 0};
            Broker broker = new Broker();
            for (int i = 1; i < calls.length; i++) {
                int[] arguments = i == 4 ? new int[] {number} : new int[] {0, number};
                CHECKS.due(Checks.told(calls[i], arguments), broker.ask(calls[i], arguments),
                        path ? due[i] : Checks.BAD_ARGUMENT);
            }
            CHECKS.due("mount at " + number, broker.ask("mount", number, 1, 1),
                    path ? due[0] : Checks.BAD_ARGUMENT);
        }
    }

    /** 'A pattern is written like a path, but a digit may also be 9'. */
    private static void patternsMayHaveNines() {
        for (int number : numbersAtEdges()) {
            boolean pattern = String.valueOf(number).matches("[1-9]{1,6}");
            Broker broker = new Broker();
            broker.policy();
            for (int open = 0; open < 2; open++) {
                CHECKS.due("allow at " + number, broker.ask("allow", 0, number, open, READ),
                        pattern ? open + 1 : Checks.BAD_ARGUMENT);
            }
        }
    }

    /**
     * 'A path is below another one if it begins with the digits of that one; each path is below itself',
     * for mounts ('paths below its own') and for revocations ('at paths below a path').
     */
    private static void belowBeginsWithTheDigits() {
        List<Integer> paths = numbers("12", 6);
        for (int upper : paths) {
            Broker broker = new Broker();
            broker.mount(upper, 1, 1);
            for (int path : paths) {
                CHECKS.due(path + " below the mount " + upper, broker.whyDenied(0, path) == SecretBroker.FINE,
                        isBelow(path, upper));
            }
            for (int first = 0; first < paths.size(); first += 40) {
                revokeBelow(upper, paths.subList(first, Math.min(first + 40, paths.size())));
            }
        }
    }

    private static void revokeBelow(int upper, List<Integer> paths) {
        Broker broker = new Broker();
        broker.mount(1, 1, 1);
        broker.mount(2, 1, 1);
        int due = 0;
        for (int path : paths) {
            broker.request(0, path);
            due += isBelow(path, upper) ? 1 : 0;
        }
        CHECKS.due("revoked below " + upper, broker.revokeBelow(upper), due);
        for (int i = 0; i < paths.size(); i++) {
            CHECKS.due(paths.get(i) + " works on, " + upper + " revoked", broker.works(i),
                    !isBelow(paths.get(i), upper));
        }
    }

    private static boolean isBelow(int path, int upper) {
        return String.valueOf(path).startsWith(String.valueOf(upper));
    }

    private static int capabilities(int path, int... rules) {
        Broker broker = new Broker();
        broker.policy();
        for (int i = 0; i < rules.length; i += 3) {
            broker.allow(0, rules[i], rules[i + 1] != 0, rules[i + 2]);
        }
        broker.create(0, 1, 1, 1, 0);
        return broker.capabilities(1, path);
    }

    private static void fits(boolean open, String behind) {
        List<Integer> paths = numbers("12", 6);
        for (int pattern : numbers("129", 6)) {
            Broker broker = new Broker();
            broker.policy();
            broker.allow(0, pattern, open, READ);
            broker.create(0, 1, 1, 1, 0);
            String text = String.valueOf(pattern).replace("9", "[1-8]") + behind;
            for (int path : paths) {
                CHECKS.due(pattern + (open ? " open" : " closed") + " at " + path,
                        broker.capabilities(1, path), String.valueOf(path).matches(text) ? READ : 0);
            }
        }
    }

    /** 'A rule that is not open fits a path with as many digits, if all digits fit, one by one.' */
    private static void closedRulesFitAsManyDigits() {
        fits(false, "");
    }

    /** 'An open rule fits a path with as many digits or more, if those that it has fit the first ones.' */
    private static void openRulesFitAsManyDigitsOrMore() {
        fits(true, "[1-8]*");
    }

    /** '9, which stands for any one folder': each from 1 to 8, and one alone. */
    private static void nineStandsForAnyOneFolder() {
        for (int folder = 1; folder <= 8; folder++) {
            CHECKS.due("9 at " + folder, capabilities(folder, 9, 0, READ), READ);
            CHECKS.due("9 at two folders", capabilities(folder * 11, 9, 0, READ), 0);
            CHECKS.due("99 at one folder", capabilities(folder, 99, 1, READ), 0);
            CHECKS.due("919 around 1", capabilities(folder * 101 + 10, 919, 0, READ), READ);
            CHECKS.due("929 around 1", capabilities(folder * 101 + 10, 929, 0, READ), 0);
            CHECKS.due("999999", capabilities(folder * 111111, 999999, folder % 2, READ), READ);
            CHECKS.due("a folder stands for itself", capabilities(folder, folder % 8 + 1, 0, READ), 0);
        }
    }

    private static boolean goesAhead(String pattern, boolean open, String other, boolean otherOpen) {
        if (pattern.length() != other.length()) {
            return pattern.length() > other.length();
        }
        if (open != otherOpen) {
            return otherOpen;
        }
        int first = 0;
        while ((pattern.charAt(first) == '9') == (other.charAt(first) == '9')) {
            first++;
        }
        return other.charAt(first) == '9';
    }

    /** 'one decides: the one with the most digits; of several, the one that is not open; of several still,
     * the one that has no 9 at the first digit at which just one of them has a 9', for all pairs, in both
     * orders of adding them. */
    private static void mostDigitsThenClosedThenNoNineDecides() {
        List<Integer> patterns = numbers("19", 4);
        for (int i = 0; i < patterns.size() * 2; i++) {
            for (int j = 0; j < patterns.size() * 2; j++) {
                if (i != j) {
                    decides(String.valueOf(patterns.get(i / 2)), i % 2 == 1,
                            String.valueOf(patterns.get(j / 2)), j % 2 == 1);
                }
            }
        }
    }

    private static void decides(String pattern, boolean open, String other, boolean otherOpen) {
        Broker broker = new Broker();
        broker.policy();
        broker.allow(0, Integer.parseInt(pattern), open, READ);
        broker.allow(0, Integer.parseInt(other), otherOpen, WRITE);
        broker.create(0, 1, 1, 1, 0);
        for (int path : new int[] {1, 11, 111, 1111, 11111, 111111}) {
            int length = String.valueOf(path).length();
            boolean fits = open ? length >= pattern.length() : length == pattern.length();
            boolean otherFits = otherOpen ? length >= other.length() : length == other.length();
            int due = fits ? READ : 0;
            if (otherFits && !(fits && goesAhead(pattern, open, other, otherOpen))) {
                due = WRITE;
            }
            CHECKS.due(pattern + open + " and " + other + otherOpen + " at " + path,
                    broker.capabilities(1, path), due);
        }
    }

    /** The same of six rules of one length, the best first, in each order in which they can be added. */
    private static void manyRulesInEachOrder() {
        int[] rising = {119, 191, 199, 911, 919, 991};
        orders(rising, new int[6], 0, 0);
        int[][] mixed = {{111, 0, 1, 191, 0, 2, 919, 0, 3, 111, 1, 4, 11, 0, 5, 11, 1, 6},
            {191, 0, 1, 919, 0, 2, 111, 1, 3, 119, 1, 4, 11, 1, 5, 1, 1, 6},
            {1119, 1, 1, 1918, 1, 2, 111, 1, 3, 119, 1, 4, 11, 1, 5, 1, 1, 6}};
        int[] paths = {111, 111, 1118};
        for (int i = 0; i < mixed.length; i++) {
            for (int turn = 0; turn < 6; turn++) {
                int[] turned = new int[18];
                for (int j = 0; j < 18; j++) {
                    turned[j] = mixed[i][(j + 3 * turn) % 18];
                }
                CHECKS.due("mixed " + i + " from " + turn + " on", capabilities(paths[i], turned), 1);
            }
        }
    }

    private static void orders(int[] rising, int[] rules, int count, int used) {
        if (count == 6) {
            inThisOrder(rising, rules, 0);
            inThisOrder(rising, rules, 1);
            return;
        }
        for (int rule = 0; rule < 6; rule++) {
            if ((used >> rule & 1) == 0) {
                rules[count] = rule;
                orders(rising, rules, count + 1, used | 1 << rule);
            }
        }
    }

    private static void inThisOrder(int[] rising, int[] rules, int open) {
        int[] added = new int[18];
        for (int i = 0; i < 6; i++) {
            added[3 * i] = rising[rules[i]];
            added[3 * i + 1] = open;
            added[3 * i + 2] = rules[i] + 1;
        }
        CHECKS.due("six rules, " + Arrays.toString(added), capabilities(111, added), 1);
    }

    /** 'one decides': what the others allow or deny does not count. */
    private static void theDecidingRuleDecidesAlone() {
        for (int set = 0; set < 16; set++) {
            for (int other = 0; other < 16; other++) {
                CHECKS.due(set + " ahead of " + other, capabilities(11, 1, 1, other, 11, 0, set),
                        set >= 8 ? 0 : set);
            }
        }
    }

    /** 'A set of policies is a number: the sum of 1 for the policy 0, 2 for the policy 1, 4 for ...'. */
    private static void aSetIsASumOfPolicies() {
        for (int set = 0; set < 256; set++) {
            Broker broker = new Broker();
            for (int policy = 0; policy < 8; policy++) {
                broker.policy();
                broker.allow(policy, policy + 1, false, READ);
            }
            broker.create(0, set, 1, 1, 0);
            for (int policy = 0; policy < 8; policy++) {
                CHECKS.due("policy " + policy + " in " + set, broker.capabilities(1, policy + 1),
                        set >> policy & 1);
            }
        }
    }

    /** 'those of all rules that decide in its policies, together, but none, if one of these has DENY'. */
    private static void togetherButNoneWithDeny() {
        for (int set = 0; set < 16; set++) {
            for (int other = 0; other < 16; other++) {
                Broker broker = new Broker();
                for (int policy = 0; policy < 3; policy++) {
                    broker.policy();
                }
                broker.allow(0, 1, true, set);
                broker.allow(1, 9, true, other);
                broker.allow(2, 1, false, 15);
                broker.create(0, 3, 1, 1, 0);
                broker.create(0, 1, 1, 1, 0);
                CHECKS.due(set + " and " + other, broker.capabilities(1, 1),
                        set >= 8 || other >= 8 ? 0 : set | other);
                CHECKS.due(set + " alone", broker.capabilities(2, 1), set >= 8 ? 0 : set);
                CHECKS.due(other + " alone, elsewhere", broker.capabilities(1, 2), other >= 8 ? 0 : other);
            }
        }
    }
}
