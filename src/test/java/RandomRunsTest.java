import java.util.ArrayList;
import java.util.List;
import java.util.Map;
import java.util.Random;
import java.util.TreeMap;

/** Long runs of drawn calls, each answer compared with that of a plain model, which follows the document's words. */
public final class RandomRunsTest {
    private static final int RUNS = 4000;
    /** Nothing is promised behind an object's 512th call. */
    private static final int CALLS = 512;
    private static final String[] PATTERNS = {
        "*", "*", "*", "", "a", "A", "a*", "?", "?b", "*b", "a?*", "$0", "$1*", "$7", "$$", "$*a", "$", "a$", "$9", "*a*b*", "a$0$1", "$2$2"};
    private static final String[] TEXTS = {"", "a", "A", "b", "ab", "aB", "abb", "$", "*a", "ba", "aab", "abababab", "bb"};
    private static final long[] NUMBERS = {
        0, 1, -1, 5, Long.MIN_VALUE, Long.MAX_VALUE, 0x0A000001L, 0x0A0000FFL, 8L << 32 | 0x0A000000L, 63L << 32 | 1, 31L << 32, -1L << 32,
        97 | 98L << 16, 97};

    /** The answers that decide can give, with the layers that can stand behind them. */
    private static final String[] OUTCOMES = {
        "-1 by 0", "-1 by 1", "-1 by 2", "-1 by 3", "-1 by 4", "-1 by 5",
        "0 by 0", "0 by 1", "0 by 2", "0 by 3", "0 by 4", "0 by 5", "1 by 4", "1 by 5"};

    private final Random random;
    /** Runs without this see few denials, so that what stands behind a denial is reached. */
    private final boolean harsh;
    /** The layers 0 .. 3 that the run leaves alone, as bits, so that what they bar is reached. */
    private final int spared;
    private final DecisionLayers real = new DecisionLayers();
    private final Model model = new Model();
    private int calls = 0;

    private RandomRunsTest(int seed) {
        random = new Random(seed);
        harsh = random.nextInt(4) == 0;
        spared = random.nextInt(16);
    }

    public static void main(String[] args) {
        Map<String, Integer> seen = new TreeMap<>();
        for (int run = 0; run < RUNS; run++) {
            RandomRunsTest test = new RandomRunsTest(run);
            while (test.calls < CALLS) {
                String difference = test.differs(seen);
                if (difference != null) {
                    System.out.println("run " + run + ", call " + test.calls + ": " + difference);
                    System.exit(1);
                }
            }
        }
        for (String outcome : OUTCOMES) {
            // An outcome that is hardly ever drawn is not tested.
            if (seen.getOrDefault(outcome, 0) < RUNS / 4) {
                System.out.println("outcomes are drawn too seldom: " + seen);
                System.exit(1);
            }
        }
        System.out.println("the class answers as the model does");
    }

    /** Makes one call on both; null when they agree. */
    private String differs(Map<String, Integer> seen) {
        int kind = random.nextInt(40);
        calls++;
        if (kind < 7) {
            int op = number(8), key = number(8), marks = number(8);
            long t = anyLong();
            return compare("test " + op + " " + key + " " + t + " " + marks, real.test(op, key, t, marks), model.test(op, key, t, marks));
        }
        if (kind < 11) {
            int how = number(3), n = random.nextInt(5) == 0 ? number(9) : random.nextInt(4);
            return compare("join " + how + " " + n, real.join(how, n), model.join(how, n));
        }
        if (kind < 18) {
            return state();
        }
        if (kind < 22) {
            int key = number(8);
            long value = anyLong();
            return compare("offer " + key + " " + value, real.offer(key, value), model.offer(key, value));
        }
        if (kind < 24) {
            int key = number(8);
            return compare("forget " + key, real.forget(key), model.forget(key));
        }
        if (kind < 31 && calls < CALLS) {
            return decide(seen);
        }
        return kind < 34 ? presence() : look();
    }

    private String state() {
        int layer = layer(), how = random.nextInt(3) == 0 ? number(16) : random.nextInt(2) * 8;
        if (!harsh && random.nextInt(8) != 0) {
            how &= ~1;
        }
        long actions = pattern(), things = pattern();
        int who = random.nextInt(3) == 0 ? -1 : layer == 5 ? who() : -1;
        return compare("state " + layer + " " + how + " " + actions + " " + things + " " + who,
            real.state(layer, how, actions, things, who), model.state(layer, how, actions, things, who));
    }

    private int layer() {
        int layer = number(6);
        return layer >= 0 && (spared >> layer & 1) != 0 ? 4 + random.nextInt(2) : layer;
    }

    private int who() {
        int drawn = random.nextInt(12);
        return drawn < 5 ? random.nextInt(2) : drawn < 10 ? 100 + 10 * random.nextInt(2) + random.nextInt(2) : random.nextInt(220) - 5;
    }

    private String decide(Map<String, Integer> seen) {
        int account = caller(), user = caller(), owner = caller();
        long action = text(), thing = text();
        int answer = real.decide(account, user, action, thing, owner), layer = real.layer();
        calls++;
        seen.merge(answer + " by " + layer, 1, Integer::sum);
        String call = "decide " + account + " " + user + " " + action + " " + thing + " " + owner;
        String difference = compare(call, answer, model.decide(account, user, action, thing, owner));
        return difference != null ? difference : compare(call + ", layer", layer, model.decider);
    }

    private int caller() {
        return random.nextInt(30) == 0 ? number(10) : random.nextInt(2);
    }

    private String presence() {
        int layer = layer();
        if (random.nextInt(2) == 0) {
            return compare("open " + layer, real.open(layer) ? 1 : 0, model.open(layer));
        }
        return compare("drop " + layer, real.drop(layer) ? 1 : 0, model.drop(layer));
    }

    private String look() {
        int n = number(8);
        switch (random.nextInt(6)) {
            case 0:
                return compare("statements " + n, real.statements(n), model.statements(n));
            case 1:
                return compare("applied " + n, real.applied(n), model.applied(n));
            case 2:
                boolean loosely = random.nextBoolean();
                long pattern = pattern(), text = text();
                return compare("matches " + pattern + " " + text + " " + loosely,
                    real.matches(pattern, text, loosely) ? 1 : 0, model.fits(pattern, text, loosely) ? 1 : 0);
            case 3:
                return compare("holds " + n, real.holds(n) ? 1 : 0, model.holds(n));
            case 4:
                return random.nextInt(3) != 0 ? null : compare("discard", real.discard() ? 1 : 0, model.discard());
            default:
                return compare("pile", real.pile(), model.pile.size());
        }
    }

    private static String compare(String call, int got, int want) {
        return got == want ? null : call + " answered " + got + ", due is " + want;
    }

    /** Mostly 0 .. bound - 1, now and then a little outside. */
    private int number(int bound) {
        return random.nextInt(12) == 0 ? random.nextInt(bound + 4) - 2 : random.nextInt(bound);
    }

    private long anyLong() {
        int drawn = random.nextInt(10);
        return drawn < 4 ? text() : drawn < 7 ? pattern() : NUMBERS[random.nextInt(NUMBERS.length)];
    }

    private long text() {
        return random.nextInt(6) == 0 ? drawn("abAB$*") : Model.number(TEXTS[random.nextInt(TEXTS.length)]);
    }

    private long pattern() {
        return random.nextInt(4) == 0 ? drawn("abAB**??$017$") : Model.number(PATTERNS[random.nextInt(PATTERNS.length)]);
    }

    private long drawn(String characters) {
        long text = 0;
        for (int i = random.nextInt(9); i > 0; i--) {
            text = text << 8 | characters.charAt(random.nextInt(characters.length()));
        }
        return text;
    }

    private interface Holding {
        boolean now();
    }

    private record Condition(int depth, Holding holding) {
    }

    private record Statement(int how, long actions, long things, int who, Condition condition) {
    }

    private static final class Model {
        final List<List<Long>> values = new ArrayList<>();
        final List<Condition> pile = new ArrayList<>();
        final List<List<Statement>> layers = new ArrayList<>();
        final int[] applied = new int[6];
        int decider = -1;

        Model() {
            for (int i = 0; i < 8; i++) {
                values.add(new ArrayList<>());
            }
            for (int i = 0; i < 6; i++) {
                layers.add(null);
            }
        }

        static long number(String text) {
            long number = 0;
            for (int i = 0; i < text.length(); i++) {
                number += (long) text.charAt(i) << 8 * i;
            }
            return number;
        }

        static String string(long text) {
            String string = "";
            for (long rest = text; (rest & 255) != 0; rest >>>= 8) {
                string += (char) (rest & 255);
            }
            return string;
        }

        static boolean within(int number, int least, int greatest) {
            return least <= number && number <= greatest;
        }

        int test(int op, int key, long t, int marks) {
            if (!within(op, 0, 7) || !within(key, 0, 7) || !within(marks, 0, 7)) {
                return -2;
            }
            return put(new Condition(1, () -> testHolds(op, values.get(key), t, marks)));
        }

        int put(Condition condition) {
            if (pile.size() == 8) {
                return -3;
            }
            pile.add(condition);
            return pile.size();
        }

        boolean testHolds(int op, List<Long> list, long t, int marks) {
            boolean negated = marks % 2 == 1;
            if (op == 7) {
                return (t == 0 ? !list.isEmpty() : list.isEmpty()) ^ negated;
            }
            if (list.isEmpty()) {
                return marks > 0;
            }
            return marks >= 4
                ? list.stream().allMatch(v -> asks(op, v, t) ^ negated)
                : list.stream().anyMatch(v -> asks(op, v, t) ^ negated);
        }

        boolean asks(int op, long v, long t) {
            return switch (op) {
                case 0 -> v == t;
                case 1 -> string(v).equals(string(t));
                case 2 -> fits(t, v, false);
                case 3 -> v < t;
                case 4 -> v <= t;
                case 5 -> bits(v).substring(0, prefix(t)).equals(bits(t).substring(0, prefix(t)));
                default -> v == 0 ? t == 0 : t != 0;
            };
        }

        static String bits(long number) {
            String bits = "";
            for (int i = 31; i >= 0; i--) {
                bits += (number >> i) & 1;
            }
            return bits;
        }

        static int prefix(long t) {
            int p = 0;
            for (int i = 0; i < 6; i++) {
                p += ((t >> 32 + i) & 1) << i;
            }
            return p > 32 ? 32 : p;
        }

        int join(int kind, int n) {
            if (!within(kind, 0, 2) || !within(n, 0, 8) || kind == 2 && n != 1 || pile.size() < n) {
                return -2;
            }
            if (n == 0 && pile.size() == 8) {
                return -3;
            }
            List<Condition> top = pile.subList(pile.size() - n, pile.size());
            List<Condition> parts = new ArrayList<>(top);
            int depth = parts.stream().mapToInt(Condition::depth).max().orElse(0) + 1;
            if (depth > 5) {
                return -4;
            }
            top.clear();
            Holding holding = switch (kind) {
                case 0 -> () -> parts.stream().allMatch(p -> p.holding.now());
                case 1 -> () -> parts.stream().anyMatch(p -> p.holding.now());
                default -> () -> !parts.get(0).holding.now();
            };
            return put(new Condition(depth, holding));
        }

        int discard() {
            if (pile.isEmpty()) {
                return 0;
            }
            pile.remove(pile.size() - 1);
            return 1;
        }

        int holds(int k) {
            return within(k, 0, pile.size() - 1) && pile.get(k).holding.now() ? 1 : 0;
        }

        int state(int layer, int how, long actions, long things, int who) {
            boolean known = who == -1 || layer == 5 && (within(who, 0, 9) || within(who, 100, 199));
            if (!within(layer, 0, 5) || !within(how, 0, 15) || !known || how >= 8 && pile.isEmpty()) {
                return -2;
            }
            if (layers.get(layer) != null && layers.get(layer).size() == 6) {
                return -3;
            }
            open(layer);
            Condition condition = how >= 8 ? pile.remove(pile.size() - 1) : new Condition(1, () -> true);
            layers.get(layer).add(new Statement(how, actions, things, who, condition));
            return layers.get(layer).size() - 1;
        }

        int open(int layer) {
            if (!within(layer, 0, 5) || layers.get(layer) != null) {
                return 0;
            }
            layers.set(layer, new ArrayList<>());
            return 1;
        }

        int drop(int layer) {
            return within(layer, 0, 5) && layers.set(layer, null) != null ? 1 : 0;
        }

        int statements(int layer) {
            return !within(layer, 0, 5) ? -2 : layers.get(layer) == null ? -1 : layers.get(layer).size();
        }

        int offer(int key, long value) {
            if (!within(key, 0, 7)) {
                return -2;
            }
            if (values.get(key).size() == 4) {
                return -3;
            }
            values.get(key).add(value);
            return values.get(key).size();
        }

        int forget(int key) {
            if (!within(key, 0, 7)) {
                return -2;
            }
            int size = values.get(key).size();
            values.get(key).clear();
            return size;
        }

        int applied(int layer) {
            return decider == -1 || !within(layer, 0, 5) ? -1 : applied[layer];
        }

        int decide(int account, int user, long action, long thing, int owner) {
            if (!within(account, 0, 9) || !within(user, 0, 9) || !within(owner, 0, 9)) {
                return -2;
            }
            boolean[] denies = new boolean[6], allows = new boolean[6], bars = new boolean[6];
            boolean byName = false;
            for (int l = 0; l < 6; l++) {
                applied[l] = 0;
                List<Statement> list = layers.get(l) == null ? List.of() : layers.get(l);
                for (int k = 0; k < list.size(); k++) {
                    Statement s = list.get(k);
                    if (applies(s, account, user, action, thing)) {
                        applied[l] += (int) Math.pow(2, k);
                        denies[l] |= s.how % 2 == 1;
                        allows[l] |= s.how % 2 == 0;
                        byName |= l == 5 && s.how % 2 == 0 && s.who == 100 + 10 * account + user;
                    }
                }
                bars[l] = layers.get(l) != null && !allows[l];
            }
            return conclude(denies, allows, bars, byName, owner == account);
        }

        int conclude(boolean[] denies, boolean[] allows, boolean[] bars, boolean byName, boolean own) {
            for (decider = 0; decider < 6; decider++) {
                if (denies[decider]) {
                    return -1;
                }
            }
            if (bars[0] || bars[1]) {
                decider = bars[0] ? 0 : 1;
                return 0;
            }
            if (own && byName) {
                decider = 5;
                return 1;
            }
            int refusing = !allows[4] && (!own || !allows[5]) ? 4 : !own && !allows[5] ? 5 : bars[2] ? 2 : bars[3] ? 3 : -1;
            decider = refusing != -1 ? refusing : allows[4] ? 4 : 5;
            return refusing != -1 ? 0 : 1;
        }

        boolean applies(Statement s, int account, int user, long action, long thing) {
            boolean meant = s.who == -1 || s.who == account || s.who >= 100 && (s.who - 100) / 10 == account && s.who % 10 == user;
            boolean actionSuits = (s.how & 2) != 0 ^ fits(s.actions, action, true);
            boolean thingSuits = (s.how & 4) != 0 ^ fits(s.things, thing, false);
            return meant && actionSuits && thingSuits && s.condition.holding.now();
        }

        boolean fits(long pattern, long text, boolean loosely) {
            List<String> signs = signs(string(pattern));
            return signs != null && reads(signs, 0, string(text), loosely);
        }

        /** What the pattern asks for, sign by sign: "*", "?", or "=" and a text; null when it matches nothing. */
        List<String> signs(String pattern) {
            List<String> signs = new ArrayList<>();
            for (int i = 0; i < pattern.length(); i++) {
                char c = pattern.charAt(i);
                if (c != '$') {
                    signs.add(c == '*' || c == '?' ? "" + c : "=" + c);
                    continue;
                }
                i++;
                if (i == pattern.length()) {
                    return null;
                }
                char behind = pattern.charAt(i);
                if ("$*?".indexOf(behind) >= 0) {
                    signs.add("=" + behind);
                } else if (within(behind, '0', '7') && values.get(behind - '0').size() == 1) {
                    signs.add("=" + string(values.get(behind - '0').get(0)));
                } else {
                    return null;
                }
            }
            return signs;
        }

        static boolean reads(List<String> signs, int from, String text, boolean loosely) {
            if (from == signs.size()) {
                return text.isEmpty();
            }
            String sign = signs.get(from);
            if (sign.equals("*")) {
                return reads(signs, from + 1, text, loosely) || !text.isEmpty() && reads(signs, from, text.substring(1), loosely);
            }
            if (sign.equals("?")) {
                return !text.isEmpty() && reads(signs, from + 1, text.substring(1), loosely);
            }
            int length = sign.length() - 1;
            return text.length() >= length
                && lower(text.substring(0, length), loosely).equals(lower(sign.substring(1), loosely))
                && reads(signs, from + 1, text.substring(length), loosely);
        }

        static String lower(String text, boolean loosely) {
            String lower = "";
            for (char c : text.toCharArray()) {
                lower += loosely && within(c, 'A', 'Z') ? (char) (c - 'A' + 'a') : c;
            }
            return lower;
        }
    }
}
