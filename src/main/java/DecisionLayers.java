/**
 * Decides requests by statements that allow or deny, in six layers, and tells
 * which layer decided and which statements applied.
 */
public final class DecisionLayers {
    public static final int BAD = -2;
    public static final int FULL = -3;
    public static final int DEEP = -4;
    public static final int ALLOWED = 1, REFUSED = 0, DENIED = -1;

    private static final int LAYERS = 6;
    private static final int BOUNDARY = 2, SESSION = 3, MAY = 4, PERMITS = 5;
    private static final int PILE_ROOM = 8;
    private static final int DEPTH_LIMIT = 5;
    private static final int OPS = 8;
    private static final int ALL_MARKS = 7;
    private static final int NONE_YET = -1;

    private final Values values;
    private final Condition[] conditions;
    private final Layer[] layers;
    private int piled;
    private int decider;

    public DecisionLayers() {
        values = new Values();
        conditions = new Condition[PILE_ROOM];
        layers = new Layer[LAYERS];
        for (int l = 0; l < LAYERS; l++) {
            layers[l] = new Layer();
        }
        piled = 0;
        decider = NONE_YET;
    }

    public int test(int op, int key, long t, int marks) {
        if (op < 0 || op >= OPS || !Values.isKey(key) || marks < 0 || marks > ALL_MARKS) {
            return BAD;
        }
        if (piled >= PILE_ROOM) {
            return FULL;
        }
        return push(new Test(op, key, t, marks));
    }

    public int join(int kind, int n) {
        if (kind < Joined.ALL || kind > Joined.NOT || n < 0 || n > piled) {
            return BAD;
        }
        if (kind == Joined.NOT && n != 1) {
            return BAD;
        }
        if (n == 0 && piled >= PILE_ROOM) {
            return FULL;
        }
        int depth = 1 + greatestDepthOfTopmost(n);
        if (depth > DEPTH_LIMIT) {
            return DEEP;
        }
        Condition[] parts = new Condition[n];
        for (int i = n - 1; i >= 0; i--) {
            parts[i] = pop();
        }
        return push(new Joined(kind, parts, depth));
    }

    public boolean discard() {
        return pop() != null;
    }

    public int pile() {
        return piled;
    }

    public int state(int layer, int how, long actions, long things, int who) {
        if (!isLayer(layer) || how < 0 || how > Statement.ALL_OF_HOW || !mayStandIn(layer, who)) {
            return BAD;
        }
        boolean conditional = (how & Statement.CONDITIONAL) != 0;
        if (conditional && piled == 0) {
            return BAD;
        }
        if (layers[layer].isFull()) {
            return FULL;
        }
        Condition condition = conditional ? pop() : null;
        return layers[layer].append(how, actions, things, who, condition);
    }

    public boolean open(int layer) {
        if (!isLayer(layer) || layers[layer].present) {
            return false;
        }
        layers[layer].present = true;
        return true;
    }

    public boolean drop(int layer) {
        if (!isLayer(layer) || !layers[layer].present) {
            return false;
        }
        layers[layer].empty();
        return true;
    }

    public int statements(int layer) {
        if (!isLayer(layer)) {
            return BAD;
        }
        return layers[layer].present ? layers[layer].count : -1;
    }

    public int offer(int key, long value) {
        if (!Values.isKey(key)) {
            return BAD;
        }
        return values.isFull(key) ? FULL : values.append(key, value);
    }

    public int forget(int key) {
        return Values.isKey(key) ? values.empty(key) : BAD;
    }

    public int decide(int account, int user, long action, long thing, int owner) {
        if (!isDigit(account) || !isDigit(user) || !isDigit(owner)) {
            return BAD;
        }
        int caller = Statement.whoOfUser(account, user);
        for (int l = 0; l < LAYERS; l++) {
            layers[l].judge(caller, action, thing, values);
        }
        return conclude(caller, owner == account);
    }

    public int layer() {
        return decider;
    }

    public int applied(int layer) {
        if (decider == NONE_YET || !isLayer(layer)) {
            return -1;
        }
        return layers[layer].judged;
    }

    public boolean matches(long pattern, long text, boolean loosely) {
        return Pattern.fits(pattern, text, loosely, values);
    }

    public boolean holds(int k) {
        if (k < 0 || k >= piled) {
            return false;
        }
        Condition condition = conditions[k];
        return condition != null && condition.isMet(values);
    }

    private static boolean isLayer(int layer) {
        return layer >= 0 && layer < LAYERS;
    }

    private static boolean isDigit(int number) {
        return number >= 0 && number <= 9;
    }

    private static boolean mayStandIn(int layer, int who) {
        return layer == PERMITS ? Statement.isWho(who) : who == Statement.EVERYBODY;
    }

    private int push(Condition condition) {
        if (piled < PILE_ROOM) {
            conditions[piled] = condition;
            piled++;
        }
        return piled;
    }

    private Condition pop() {
        if (piled == 0) {
            return null;
        }
        piled--;
        Condition top = conditions[piled];
        conditions[piled] = null;
        return top;
    }

    private int greatestDepthOfTopmost(int n) {
        int greatest = 0;
        for (int i = piled - n; i < piled; i++) {
            Condition part = conditions[i];
            if (part != null) {
                greatest = Math.max(greatest, part.depth);
            }
        }
        return greatest;
    }

    /** Reads the answer off what the layers have just judged; the order of the steps is the document's. */
    private int conclude(int caller, boolean own) {
        for (int l = 0; l < LAYERS; l++) {
            if (layers[l].denies()) {
                return settle(DENIED, l);
            }
        }
        for (int l = 0; l < BOUNDARY; l++) {
            if (layers[l].bars()) {
                return settle(REFUSED, l);
            }
        }
        if (own && layers[PERMITS].allowsByName(caller)) {
            return settle(ALLOWED, PERMITS);
        }
        return concludeFromGrants(own);
    }

    private int concludeFromGrants(boolean own) {
        boolean may = layers[MAY].allows();
        boolean permitted = layers[PERMITS].allows();
        if (!may && !(own && permitted)) {
            return settle(REFUSED, MAY);
        }
        if (!own && !permitted) {
            return settle(REFUSED, PERMITS);
        }
        for (int l = BOUNDARY; l <= SESSION; l++) {
            if (layers[l].bars()) {
                return settle(REFUSED, l);
            }
        }
        return settle(ALLOWED, may ? MAY : PERMITS);
    }

    private int settle(int answer, int layer) {
        decider = layer;
        return answer;
    }

    /** Longs read as rows of characters. */
    private static final class Text {
        private static final int ROOM = 8;

        /** The character at a place, 0 behind the last one. */
        static int charAt(long text, int i) {
            return i < 0 || i >= ROOM ? 0 : (int) (text >>> (8 * i)) & 255;
        }

        static int length(long text) {
            for (int i = 0; i < ROOM; i++) {
                if ((text >>> (8 * i) & 255) == 0) {
                    return i;
                }
            }
            return ROOM;
        }

        static boolean isSame(long a, long b) {
            int length = length(a);
            if (length != length(b)) {
                return false;
            }
            for (int i = 0; i < length; i++) {
                if (charAt(a, i) != charAt(b, i)) {
                    return false;
                }
            }
            return true;
        }

        static boolean isAlike(int a, int b, boolean loosely) {
            if (!loosely) {
                return a == b;
            }
            int lowerA = a >= 65 && a <= 90 ? a + 32 : a;
            int lowerB = b >= 65 && b <= 90 ? b + 32 : b;
            return lowerA == lowerB;
        }
    }

    private static final class Values {
        static final int KEYS = 8;
        static final int ROOM = 4;

        private final long[] row = new long[KEYS * ROOM];
        private final int[] counts = new int[KEYS];

        static boolean isKey(int key) {
            return key >= 0 && key < KEYS;
        }

        int count(int key) {
            return key >= 0 && key < KEYS ? counts[key] : 0;
        }

        long get(int key, int i) {
            if (key < 0 || key >= KEYS || i < 0 || i >= counts[key]) {
                return 0;
            }
            return row[key * ROOM + i];
        }

        boolean isFull(int key) {
            return count(key) >= ROOM;
        }

        int append(int key, long value) {
            if (isKey(key) && counts[key] < ROOM) {
                row[key * ROOM + counts[key]] = value;
                counts[key]++;
            }
            return count(key);
        }

        int empty(int key) {
            int before = count(key);
            if (isKey(key)) {
                counts[key] = 0;
            }
            return before;
        }
    }

    /**
     * Matching by sets of places: bit i of a set says that what has been read of the pattern
     * can end before character i of the text. So nothing is tried twice and nothing is made.
     */
    private static final class Pattern {
        private static final int STAR = 42, QUESTION = 63, DOLLAR = 36, FIRST_KEY = 48;
        private static final int START = 1;

        static boolean fits(long pattern, long text, boolean loosely, Values values) {
            int length = Text.length(pattern);
            int places = START;
            boolean behindDollar = false;
            for (int i = 0; i < length; i++) {
                int c = Text.charAt(pattern, i);
                if (behindDollar) {
                    if (!meansSomething(c, values)) {
                        return false;
                    }
                    places = readText(places, meaning(c, values), text, loosely);
                    behindDollar = false;
                } else if (c == DOLLAR) {
                    behindDollar = true;
                } else if (c == STAR) {
                    places = readAnyRow(places, text);
                } else if (c == QUESTION) {
                    places = readAnyOne(places, text);
                } else {
                    places = readText(places, c, text, loosely);
                }
            }
            return !behindDollar && (places >>> Text.length(text) & 1) != 0;
        }

        private static boolean meansSomething(int c, Values values) {
            return c == DOLLAR || c == STAR || c == QUESTION || values.count(c - FIRST_KEY) == 1;
        }

        private static long meaning(int c, Values values) {
            return Values.isKey(c - FIRST_KEY) ? values.get(c - FIRST_KEY, 0) : c;
        }

        private static int readAnyRow(int places, long text) {
            int lowest = places & -places;
            int all = (2 << Text.length(text)) - 1;
            return -lowest & all;
        }

        private static int readAnyOne(int places, long text) {
            int all = (2 << Text.length(text)) - 1;
            return places << 1 & all;
        }

        private static int readText(int places, long wanted, long text, boolean loosely) {
            int steps = Text.length(wanted);
            int length = Text.length(text);
            int reached = places;
            for (int step = 0; step < steps; step++) {
                int c = Text.charAt(wanted, step);
                int next = 0;
                for (int i = 0; i < length; i++) {
                    if ((reached >>> i & 1) != 0 && Text.isAlike(c, Text.charAt(text, i), loosely)) {
                        next |= 2 << i;
                    }
                }
                reached = next;
            }
            return reached;
        }
    }

    /** A tree that is at most DEPTH_LIMIT deep, which join sees to. */
    private abstract static class Condition {
        final int depth;

        Condition(int depth) {
            this.depth = depth;
        }

        abstract boolean isMet(Values values);
    }

    private static final class Test extends Condition {
        private static final int SAME_NUMBER = 0, SAME_TEXT = 1, PATTERN = 2, LESS = 3, AT_MOST = 4;
        private static final int SAME_PREFIX = 5, SAME_ZERO = 6, ABSENT = 7;
        private static final int NEGATED = 1, EACH = 4;

        private final int op;
        private final int key;
        private final long t;
        private final int marks;

        Test(int op, int key, long t, int marks) {
            super(1);
            this.op = op;
            this.key = key;
            this.t = t;
            this.marks = marks;
        }

        boolean isMet(Values values) {
            boolean negated = (marks & NEGATED) != 0;
            boolean each = (marks & EACH) != 0;
            int count = values.count(key);
            if (op == ABSENT) {
                return ((count == 0) == (t != 0)) != negated;
            }
            if (count == 0) {
                return marks != 0;
            }
            for (int i = 0; i < count; i++) {
                boolean suits = saysYes(values.get(key, i), values) != negated;
                if (suits != each) {
                    return !each;
                }
            }
            return each;
        }

        private boolean saysYes(long v, Values values) {
            switch (op) {
                case SAME_NUMBER:
                    return v == t;
                case SAME_TEXT:
                    return Text.isSame(v, t);
                case PATTERN:
                    return Pattern.fits(t, v, false, values);
                case LESS:
                    return v < t;
                case AT_MOST:
                    return v <= t;
                case SAME_PREFIX:
                    return hasPrefix(v);
                case SAME_ZERO:
                    return (v == 0) == (t == 0);
                default:
                    return false;
            }
        }

        private boolean hasPrefix(long v) {
            int bits = Math.min((int) (t >>> 32) & 63, 32);
            long differing = (v ^ t) & 0xFFFFFFFFL;
            return differing >>> (32 - bits) == 0;
        }
    }

    private static final class Joined extends Condition {
        static final int ALL = 0, ANY = 1, NOT = 2;

        private final int kind;
        private final Condition[] parts;

        Joined(int kind, Condition[] parts, int depth) {
            super(depth);
            this.kind = kind;
            this.parts = parts;
        }

        boolean isMet(Values values) {
            // What settles it is a part that fails for ALL, and one that holds for ANY and NOT.
            boolean settling = kind != ALL;
            for (int i = 0; i < parts.length; i++) {
                Condition part = parts[i];
                if (part != null && part.isMet(values) == settling) {
                    return kind == ANY;
                }
            }
            return kind != ANY;
        }
    }

    private static final class Statement {
        static final int DENYING = 1, OTHER_ACTIONS = 2, OTHER_THINGS = 4, CONDITIONAL = 8;
        static final int ALL_OF_HOW = 15;
        static final int EVERYBODY = -1;
        private static final int FIRST_USER = 100, LAST_USER = 199, LAST_ACCOUNT = 9, USERS = 10;

        private int how;
        private long actions;
        private long things;
        private int who;
        private Condition condition;

        static boolean isWho(int who) {
            return who >= EVERYBODY && who <= LAST_ACCOUNT || who >= FIRST_USER && who <= LAST_USER;
        }

        static int whoOfUser(int account, int user) {
            return FIRST_USER + USERS * account + user;
        }

        void become(int how, long actions, long things, int who, Condition condition) {
            this.how = how;
            this.actions = actions;
            this.things = things;
            this.who = who;
            this.condition = condition;
        }

        boolean isDenying() {
            return (how & DENYING) != 0;
        }

        boolean names(int user) {
            return who == user;
        }

        boolean suits(int caller, long action, long thing, Values values) {
            boolean otherActions = (how & OTHER_ACTIONS) != 0;
            boolean otherThings = (how & OTHER_THINGS) != 0;
            return means(caller)
                && Pattern.fits(actions, action, true, values) != otherActions
                && Pattern.fits(things, thing, false, values) != otherThings
                && (condition == null || condition.isMet(values));
        }

        private boolean means(int caller) {
            return who == EVERYBODY || who == caller || who == (caller - FIRST_USER) / USERS;
        }
    }

    private static final class Layer {
        private static final int ROOM = 6;

        private final Statement[] rows;
        private int count;
        private boolean present;
        /** The statements that suited the latest request, bit k for number k; a dropped layer keeps it. */
        private int judged;

        Layer() {
            rows = new Statement[ROOM];
            for (int k = 0; k < ROOM; k++) {
                rows[k] = new Statement();
            }
        }

        boolean isFull() {
            return count >= ROOM;
        }

        int append(int how, long actions, long things, int who, Condition condition) {
            if (count >= ROOM) {
                return FULL;
            }
            rows[count].become(how, actions, things, who, condition);
            present = true;
            count++;
            return count - 1;
        }

        void empty() {
            count = 0;
            present = false;
        }

        void judge(int caller, long action, long thing, Values values) {
            judged = 0;
            for (int k = 0; k < count && k < ROOM; k++) {
                if (rows[k].suits(caller, action, thing, values)) {
                    judged |= 1 << k;
                }
            }
        }

        boolean denies() {
            return hasJudged(true);
        }

        boolean allows() {
            return hasJudged(false);
        }

        boolean bars() {
            return present && !allows();
        }

        boolean allowsByName(int user) {
            for (int k = 0; k < count && k < ROOM; k++) {
                if (isJudged(k) && !rows[k].isDenying() && rows[k].names(user)) {
                    return true;
                }
            }
            return false;
        }

        private boolean hasJudged(boolean denying) {
            for (int k = 0; k < count && k < ROOM; k++) {
                if (isJudged(k) && rows[k].isDenying() == denying) {
                    return true;
                }
            }
            return false;
        }

        private boolean isJudged(int k) {
            return (judged >>> k & 1) != 0;
        }
    }
}
