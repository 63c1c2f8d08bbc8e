/** What the tests of the boundary cases share; each test first says which sentence of the document it holds the program to. */
class Checks {
    static final int BAD = -2, FULL = -3, DEEP = -4;
    static final int ALLOWED = 1, REFUSED = 0, DENIED = -1;
    static final int ALL = 0, ANY = 1, NOT = 2;
    static final int NEGATED = 1, SPARING = 2, EACH = 4;
    static final int DENY = 1, OTHER_ACTIONS = 2, OTHER_THINGS = 4, CONDITIONAL = 8;
    static final int EVERYBODY = -1;
    static final int LAYERS = 6, KEYS = 8, PILE_ROOM = 8, LAYER_ROOM = 6, KEY_ROOM = 4;
    static final long STAR = '*';

    private static String sentence = "";
    private static int made = 0;
    private static int madeBefore = -1;
    private static int wrong = 0;

    /** Begins the test of a sentence. */
    static void says(String words) {
        endSentence();
        sentence = words;
        madeBefore = made;
    }

    static void due(String what, boolean got, boolean want) {
        due(what, got ? 1 : 0, want ? 1 : 0);
    }

    static void due(String what, int got, int want) {
        made++;
        if (got != want) {
            wrong++;
            System.out.println("\"" + sentence + "\": " + what + " answered " + got + ", due is " + want);
        }
    }

    static void end() {
        endSentence();
        System.out.println(wrong == 0 ? "all " + made + " answers are as due" : wrong + " answers are not as due");
        if (wrong != 0) {
            System.exit(1);
        }
    }

    /** A sentence without a single check would pass whatever the program does. */
    private static void endSentence() {
        if (made == madeBefore) {
            wrong++;
            System.out.println("\"" + sentence + "\": nothing was checked");
        }
    }

    static long text(String characters) {
        long text = 0;
        for (int i = characters.length() - 1; i >= 0; i--) {
            text = text << 8 | characters.charAt(i);
        }
        return text;
    }

    /**
     * Numbers outside of least .. greatest: the nearest ones, the extremes, and some that would be
     * inside, or look so, if they were cut to fewer bits or if ten times them wrapped round.
     */
    static int[] outside(int least, int greatest) {
        return new int[] {
            least - 1, greatest + 1, Integer.MIN_VALUE, Integer.MIN_VALUE + greatest, Integer.MAX_VALUE,
            256 + greatest, -256 + greatest, 65536 + greatest, 1 << 30, -greatest - 2, 429496730, 858993460};
    }

    static void allow(DecisionLayers x, int layer) {
        x.state(layer, 0, STAR, STAR, EVERYBODY);
    }

    static void deny(DecisionLayers x, int layer) {
        x.state(layer, DENY, STAR, STAR, EVERYBODY);
    }

    static DecisionLayers withValues(int key, long... values) {
        DecisionLayers x = new DecisionLayers();
        for (long value : values) {
            x.offer(key, value);
        }
        return x;
    }

    /** A condition that holds, or one that does not, onto the pile. */
    static void put(DecisionLayers x, boolean holding) {
        x.join(holding ? ALL : ANY, 0);
    }

    static void putDeep(DecisionLayers x, int depth) {
        x.test(7, 0, 1, 0);
        for (int d = 2; d <= depth; d++) {
            x.join(NOT, 1);
        }
    }

    static void fillPile(DecisionLayers x) {
        for (int i = x.pile(); i < PILE_ROOM; i++) {
            put(x, true);
        }
    }
}
