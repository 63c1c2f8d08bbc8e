/** For each promise of the document: ordinary inputs, the edges that it names, and wrong inputs. */
public final class PromisesTest {
    private static final int BAD = -2, FULL = -3, DEEP = -4;
    private static final int ALLOWED = 1, REFUSED = 0, DENIED = -1;
    private static final int ALL = 0, ANY = 1, NOT = 2;
    private static final int NEGATED = 1, SPARING = 2, EACH = 4;
    private static final int DENY = 1, OTHER_ACTIONS = 2, OTHER_THINGS = 4, CONDITIONAL = 8;
    private static final int EVERYBODY = -1;
    private static final int[] EXTREMES = {-1, Integer.MIN_VALUE, Integer.MAX_VALUE};

    private static int promise;
    private static int wrong = 0;

    public static void main(String[] args) {
        newObject();
        test();
        testOps();
        testMarks();
        join();
        joinDepth();
        discardAndPile();
        state();
        stateWho();
        open();
        drop();
        statements();
        offer();
        forget();
        decideArguments();
        decideOrder();
        decideOwnersAndNames();
        decideStatements();
        layer();
        applied();
        matches();
        matchesDollars();
        matchesLoosely();
        holds();
        System.out.println(wrong == 0 ? "all promises are kept" : wrong + " answers are not as due");
        if (wrong != 0) {
            System.exit(1);
        }
    }

    private static void newObject() {
        promise = 1;
        DecisionLayers x = new DecisionLayers();
        due("pile", x.pile(), 0);
        due("discard", x.discard(), false);
        due("layer", x.layer(), -1);
        for (int l = 0; l < 6; l++) {
            due("statements " + l, x.statements(l), -1);
            due("drop " + l, x.drop(l), false);
            due("applied " + l, x.applied(l), -1);
        }
        for (int k = 0; k < 8; k++) {
            due("forget " + k, x.forget(k), 0);
            due("holds " + k, x.holds(k), false);
        }
        DecisionLayers other = new DecisionLayers();
        x.offer(0, 1);
        x.open(0);
        x.test(0, 0, 0, 0);
        due("another object's values", other.forget(0), 0);
        due("another object's layers", other.statements(0), -1);
        due("another object's pile", other.pile(), 0);
    }

    private static void test() {
        promise = 2;
        DecisionLayers x = new DecisionLayers();
        for (int wrongOne : new int[] {-1, 8, Integer.MIN_VALUE, Integer.MAX_VALUE}) {
            due("op " + wrongOne, x.test(wrongOne, 0, 0, 0), BAD);
            due("key " + wrongOne, x.test(0, wrongOne, 0, 0), BAD);
            due("marks " + wrongOne, x.test(0, 0, 0, wrongOne), BAD);
        }
        due("pile", x.pile(), 0);
        for (int n = 0; n < 8; n++) {
            due("test " + n, x.test(n, 7 - n, n, n), n + 1);
        }
        due("ninth test", x.test(0, 0, 0, 0), FULL);
        due("bad ninth test", x.test(8, 0, 0, 0), BAD);
        due("pile", x.pile(), 8);
    }

    private static void testOps() {
        promise = 2;
        due("0 equal", suits(0, 5, 5), true);
        due("0 other", suits(0, 5, 6), false);
        due("0 same text, other number", suits(0, text("ab"), text("ab") | 1L << 40), false);
        due("1 same text, other number", suits(1, text("ab"), text("ab") | 1L << 40), true);
        due("1 shorter", suits(1, text("a"), text("ab")), false);
        due("1 longer", suits(1, text("ab"), text("a")), false);
        due("1 other", suits(1, text("ab"), text("ac")), false);
        due("1 other at the first", suits(1, text("ab"), text("cb")), false);
        due("1 case", suits(1, text("ab"), text("aB")), false);
        due("1 stars are characters", suits(1, text("a*"), text("ab")), false);
        due("1 eight characters", suits(1, text("abcdefgh"), text("abcdefgh")), true);
        due("1 last of eight", suits(1, text("abcdefgh"), text("abcdefgi")), false);
        due("1 empty texts", suits(1, 0, 1L << 8), true);
        due("2 star", suits(2, text("a*"), text("abc")), true);
        due("2 value is the text, not the pattern", suits(2, text("abc"), text("a*")), false);
        due("2 not loosely", suits(2, text("a*"), text("Abc")), false);
        due("2 names its own key", suits(2, text("$1"), text("a*")), true);
        due("2 names a key without values", suits(2, text("$2"), 0), false);
        due("3 less", suits(3, 5, 4), true);
        due("3 equal", suits(3, 5, 5), false);
        due("3 signed", suits(3, 0, -1), true);
        due("3 extremes", suits(3, Long.MAX_VALUE, Long.MIN_VALUE), true);
        due("3 extremes turned", suits(3, Long.MIN_VALUE, Long.MAX_VALUE), false);
        due("4 equal", suits(4, 5, 5), true);
        due("4 more", suits(4, 5, 6), false);
        due("4 signed", suits(4, 0, Long.MIN_VALUE), true);
        due("5 in the net", suits(5, net(8, 0x0A000000L), 0x0A0B0C0DL), true);
        due("5 out of the net", suits(5, net(8, 0x0A000000L), 0x0B000000L), false);
        due("5 last bit of the prefix", suits(5, net(9, 0x0A000000L), 0x0A800000L), false);
        due("5 first bit behind it", suits(5, net(8, 0x0A000000L), 0x0A800000L), true);
        due("5 no bits", suits(5, net(0, 0x0A000000L), 0xF5FFFFFFL), true);
        due("5 one bit", suits(5, net(1, 0x80000000L), 0xFFFFFFFFL), true);
        due("5 one other bit", suits(5, net(1, 0x80000000L), 0x7FFFFFFFL), false);
        due("5 31 bits", suits(5, net(31, 6), 7), true);
        due("5 32 bits", suits(5, net(32, 6), 7), false);
        due("5 33 bits mean 32", suits(5, net(33, 6), 7), false);
        due("5 33 bits, the same", suits(5, net(33, 6), 6), true);
        due("5 63 bits mean 32", suits(5, net(63, 6), 7), false);
        due("5 63 bits, the same", suits(5, net(63, 6), 6), true);
        due("5 high bits of the value", suits(5, net(32, 6), 6 | 1L << 40), true);
        due("5 bits 38 and up of t", suits(5, net(8, 0x0A000000L) | -1L << 38, 0x0A0B0C0DL), true);
        due("6 both 0", suits(6, 0, 0), true);
        due("6 neither 0", suits(6, 1, -7), true);
        due("6 only t", suits(6, 0, 1), false);
        due("6 only v", suits(6, 1, 0), false);
        due("6 high bits count", suits(6, 1, 1L << 60), true);
    }

    private static void testMarks() {
        promise = 2;
        for (int marks = 0; marks < 8; marks++) {
            for (int op = 0; op < 7; op++) {
                due("no values, op " + op + ", marks " + marks, holds(op, 3, marks), marks != 0);
            }
            boolean negated = (marks & NEGATED) != 0;
            due("7 absent wanted, absent, marks " + marks, holds(7, 9, marks), !negated);
            due("7 absent wanted, there, marks " + marks, holds(7, 9, marks, 1), negated);
            due("7 there wanted, absent, marks " + marks, holds(7, 0, marks), negated);
            due("7 there wanted, there, marks " + marks, holds(7, 0, marks, 1, 2), !negated);
        }
        for (int spare = 0; spare <= SPARING; spare += SPARING) {
            due("one of two", holds(0, 3, spare, 1, 3), true);
            due("none of two", holds(0, 3, spare, 1, 2), false);
            due("last of four", holds(0, 3, spare, 1, 2, 4, 3), true);
            due("each, one of two", holds(0, 3, spare + EACH, 3, 1), false);
            due("each, both", holds(0, 3, spare + EACH, 3, 3), true);
            due("each, not the last of four", holds(0, 3, spare + EACH, 3, 3, 3, 4), false);
            due("negated, one of two differs", holds(0, 3, spare + NEGATED, 3, 1), true);
            due("negated, none differs", holds(0, 3, spare + NEGATED, 3, 3), false);
            due("negated each, one differs", holds(0, 3, spare + NEGATED + EACH, 3, 1), false);
            due("negated each, both differ", holds(0, 3, spare + NEGATED + EACH, 1, 2), true);
        }
        due("a wrong pattern says no", holds(2, text("a$"), 0, text("a")), false);
        due("a wrong pattern says no, negated", holds(2, text("a$"), NEGATED, text("a")), true);
        due("7 looks at no value", holds(7, 0, EACH, 0), true);
        due("a key of two values in a pattern", holds(2, text("$1"), 0, text("a"), text("b")), false);
    }

    private static void join() {
        promise = 3;
        DecisionLayers x = new DecisionLayers();
        due("all of none", x.join(ALL, 0), 1);
        due("any of none", x.join(ANY, 0), 2);
        due("all of none holds", x.holds(0), true);
        due("any of none holds", x.holds(1), false);
        for (int wrongOne : new int[] {-1, 3, Integer.MIN_VALUE, Integer.MAX_VALUE}) {
            due("kind " + wrongOne, x.join(wrongOne, 1), BAD);
        }
        for (int wrongOne : new int[] {-1, 3, 8, 9, Integer.MIN_VALUE, Integer.MAX_VALUE}) {
            due("n " + wrongOne, x.join(ALL, wrongOne), BAD);
        }
        due("not of none", x.join(NOT, 0), BAD);
        due("not of two", x.join(NOT, 2), BAD);
        due("pile", x.pile(), 2);
        due("not of any", x.join(NOT, 1), 2);
        due("not holds", x.holds(1), true);
        due("the one below", x.holds(0), true);
        due("not of not", x.join(NOT, 1), 2);
        due("not of not holds", x.holds(1), false);
        due("all of a held and a failed", x.join(ALL, 2), 1);
        due("it holds", x.holds(0), false);
        joinOfMany();
        joinWhenFull();
    }

    private static void joinOfMany() {
        for (int kind = ALL; kind <= ANY; kind++) {
            for (int odd = -1; odd < 4; odd++) {
                DecisionLayers x = new DecisionLayers();
                boolean others = kind == ALL;
                x.join(others ? ANY : ALL, 0);
                for (int i = 0; i < 4; i++) {
                    x.join(others == (i != odd) ? ALL : ANY, 0);
                }
                due("join of 4", x.join(kind, 4), 2);
                due("kind " + kind + ", odd one " + odd, x.holds(1), others == (odd == -1));
                due("what lay below", x.holds(0), !others);
            }
        }
    }

    private static void joinWhenFull() {
        DecisionLayers x = new DecisionLayers();
        for (int i = 0; i < 8; i++) {
            x.join(ALL, 0);
        }
        due("none onto a full pile", x.join(ANY, 0), FULL);
        due("not of none onto a full pile", x.join(NOT, 0), BAD);
        due("wrong kind onto a full pile", x.join(3, 0), BAD);
        due("pile", x.pile(), 8);
        due("not on a full pile", x.join(NOT, 1), 8);
        due("one on a full pile", x.join(ANY, 1), 8);
        due("nine", x.join(ALL, 9), BAD);
        due("all eight", x.join(ALL, 8), 1);
        due("it holds", x.holds(0), false);
    }

    private static void joinDepth() {
        promise = 3;
        DecisionLayers x = new DecisionLayers();
        x.test(7, 0, 1, 0);
        for (int depth = 2; depth <= 5; depth++) {
            due("to depth " + depth, x.join(NOT, 1), 1);
        }
        due("it holds", x.holds(0), true);
        for (int kind = ALL; kind <= NOT; kind++) {
            due("to depth 6 by " + kind, x.join(kind, 1), DEEP);
        }
        x.test(0, 0, 0, 0);
        due("the deep one below", x.join(ALL, 2), DEEP);
        due("the shallow one alone", x.join(ALL, 1), 2);
        due("too many", x.join(ALL, 3), BAD);
        due("pile", x.pile(), 2);
        due("the deep one still holds", x.holds(0), true);
        DecisionLayers y = new DecisionLayers();
        y.join(ALL, 0);
        for (int depth = 2; depth <= 5; depth++) {
            due("none, to depth " + depth, y.join(ANY, 1), 1);
        }
        due("none, to depth 6", y.join(ANY, 1), DEEP);
        y.discard();
        y.join(ANY, 0);
        y.join(NOT, 1);
        y.join(NOT, 1);
        y.join(NOT, 1);
        y.test(7, 0, 1, 0);
        due("depth 4 and 1", y.join(ALL, 2), 1);
        due("depth 5", y.join(ALL, 1), DEEP);
        due("still no room for more", y.join(NOT, 1), DEEP);
        due("another one", y.test(0, 0, 0, 0), 2);
    }

    private static void discardAndPile() {
        promise = 4;
        DecisionLayers x = new DecisionLayers();
        due("nothing there", x.discard(), false);
        x.join(ALL, 0);
        x.join(ANY, 0);
        due("the topmost", x.discard(), true);
        promise = 5;
        due("one left", x.pile(), 1);
        promise = 4;
        due("the lower one is left", x.holds(0), true);
        due("the last", x.discard(), true);
        due("no more", x.discard(), false);
        promise = 5;
        due("none left", x.pile(), 0);
        for (int n = 1; n <= 8; n++) {
            x.test(0, 0, 0, 0);
            due("pile", x.pile(), n);
        }
        x.test(0, 0, 0, 0);
        due("pile is full", x.pile(), 8);
        x.state(4, CONDITIONAL, 0, 0, EVERYBODY);
        due("one taken by a statement", x.pile(), 7);
    }

    private static void state() {
        promise = 6;
        DecisionLayers x = new DecisionLayers();
        for (int wrongOne : new int[] {-1, 6, Integer.MIN_VALUE, Integer.MAX_VALUE}) {
            due("layer " + wrongOne, x.state(wrongOne, 0, 0, 0, EVERYBODY), BAD);
        }
        for (int wrongOne : new int[] {-1, 16, Integer.MIN_VALUE, Integer.MAX_VALUE}) {
            due("how " + wrongOne, x.state(0, wrongOne, 0, 0, EVERYBODY), BAD);
        }
        due("no condition there", x.state(0, CONDITIONAL, 0, 0, EVERYBODY), BAD);
        due("the layer is not there", x.statements(0), -1);
        x.test(0, 0, 0, 0);
        due("how -1 with a condition there", x.state(0, -1, 0, 0, EVERYBODY), BAD);
        for (int l = 0; l < 6; l++) {
            for (int k = 0; k < 6; k++) {
                due("statement " + k + " of layer " + l, x.state(l, k, k, l, EVERYBODY), k);
            }
            due("seventh", x.state(l, 0, 0, 0, EVERYBODY), FULL);
            due("seventh, conditional", x.state(l, CONDITIONAL, 0, 0, EVERYBODY), FULL);
            due("seventh, bad", x.state(l, 16, 0, 0, EVERYBODY), BAD);
            due("statements", x.statements(l), 6);
        }
        due("no condition was taken", x.pile(), 1);
        x.drop(1);
        due("the greatest how", x.state(1, 15, 0, 0, EVERYBODY), 0);
        due("the condition was taken", x.pile(), 0);
        due("seventh, no condition there", x.state(4, CONDITIONAL, 0, 0, EVERYBODY), BAD);
        stateTakesTheTopmost();
    }

    private static void stateTakesTheTopmost() {
        DecisionLayers x = new DecisionLayers();
        x.join(ALL, 0);
        x.join(ANY, 0);
        due("without a condition", x.state(4, 0, text("x"), text("*"), EVERYBODY), 0);
        due("pile", x.pile(), 2);
        due("with one", x.state(4, CONDITIONAL, text("*"), text("*"), EVERYBODY), 1);
        due("pile", x.pile(), 1);
        due("what is left holds", x.holds(0), true);
        x.decide(0, 0, text("a"), text("b"), 0);
        due("the failing one was taken", x.applied(4), 0);
        x.state(4, CONDITIONAL, text("*"), text("*"), EVERYBODY);
        x.decide(0, 0, text("a"), text("b"), 0);
        due("then the holding one", x.applied(4), 4);
    }

    private static void stateWho() {
        promise = 6;
        for (int who = -3; who <= 215; who++) {
            boolean known = who >= -1 && who <= 9 || who >= 100 && who <= 199;
            due("layer 5, who " + who, new DecisionLayers().state(5, 0, 0, 0, who), known ? 0 : BAD);
            for (int l = 0; l < 5; l++) {
                due("layer " + l + ", who " + who, new DecisionLayers().state(l, 0, 0, 0, who), who == -1 ? 0 : BAD);
            }
        }
        due("least who", new DecisionLayers().state(5, 0, 0, 0, Integer.MIN_VALUE), BAD);
        due("greatest who", new DecisionLayers().state(5, 0, 0, 0, Integer.MAX_VALUE), BAD);
        DecisionLayers x = new DecisionLayers();
        x.test(0, 0, 0, 0);
        due("wrong who", x.state(3, CONDITIONAL, 0, 0, 0), BAD);
        due("no condition was taken", x.pile(), 1);
        due("the layer is not there", x.statements(3), -1);
    }

    private static void open() {
        promise = 7;
        DecisionLayers x = new DecisionLayers();
        for (int l = 0; l < 6; l++) {
            due("open " + l, x.open(l), true);
            due("statements " + l, x.statements(l), 0);
            due("again " + l, x.open(l), false);
        }
        due("open 6", x.open(6), false);
        for (int wrongOne : EXTREMES) {
            due("open " + wrongOne, x.open(wrongOne), false);
        }
        DecisionLayers y = new DecisionLayers();
        y.state(2, 0, 0, 0, EVERYBODY);
        due("present by its statement", y.open(2), false);
        due("it keeps it", y.statements(2), 1);
        y.drop(2);
        due("open after drop", y.open(2), true);
        due("it came back empty", y.statements(2), 0);
        due("statement into an open layer", y.state(2, 0, 0, 0, EVERYBODY), 0);
    }

    private static void drop() {
        promise = 8;
        DecisionLayers x = new DecisionLayers();
        for (int wrongOne : EXTREMES) {
            due("drop " + wrongOne, x.drop(wrongOne), false);
        }
        due("drop 6", x.drop(6), false);
        for (int l = 0; l < 6; l++) {
            due("not there", x.drop(l), false);
            x.open(l);
            due("an open one", x.drop(l), true);
            due("again", x.drop(l), false);
            x.state(l, DENY, text("*"), text("*"), EVERYBODY);
            x.state(l, DENY, text("*"), text("*"), EVERYBODY);
            due("one with statements", x.drop(l), true);
            due("it is not there", x.statements(l), -1);
            due("numbers begin anew", x.state(l, 0, text("x"), text("x"), EVERYBODY), 0);
            due("one statement", x.statements(l), 1);
            x.drop(l);
        }
        due("nothing is left that denies", x.decide(0, 0, 0, 0, 0), REFUSED);
        due("nothing bars", x.layer(), 4);
        x.state(0, 0, text("*"), text("*"), EVERYBODY);
        x.state(1, 0, text("*"), text("*"), EVERYBODY);
        x.drop(0);
        due("the others stay", x.statements(1), 1);
    }

    private static void statements() {
        promise = 9;
        DecisionLayers x = new DecisionLayers();
        for (int wrongOne : EXTREMES) {
            due("statements " + wrongOne, x.statements(wrongOne), BAD);
        }
        due("statements 6", x.statements(6), BAD);
        due("not there", x.statements(5), -1);
        for (int n = 1; n <= 6; n++) {
            x.state(5, 0, 0, 0, EVERYBODY);
            due("statements", x.statements(5), n);
            due("of another layer", x.statements(4), -1);
        }
        x.state(5, 0, 0, 0, EVERYBODY);
        due("no more than six", x.statements(5), 6);
    }

    private static void offer() {
        promise = 10;
        DecisionLayers x = new DecisionLayers();
        for (int wrongOne : new int[] {-1, 8, Integer.MIN_VALUE, Integer.MAX_VALUE}) {
            due("key " + wrongOne, x.offer(wrongOne, 1), BAD);
        }
        for (int key = 0; key < 8; key++) {
            for (int n = 1; n <= 4; n++) {
                due("value " + n + " of key " + key, x.offer(key, key), n);
            }
            due("fifth value", x.offer(key, 77), FULL);
        }
        for (int key = 0; key < 8; key++) {
            x.test(0, key, key, EACH);
            due("key " + key + " has its own values", x.holds(key), true);
        }
        due("the same value twice counts", x.forget(3), 4);
        due("after forget", x.offer(3, 1), 1);
    }

    private static void forget() {
        promise = 11;
        DecisionLayers x = new DecisionLayers();
        for (int wrongOne : new int[] {-1, 8, Integer.MIN_VALUE, Integer.MAX_VALUE}) {
            due("key " + wrongOne, x.forget(wrongOne), BAD);
        }
        for (int n = 0; n <= 4; n++) {
            for (int i = 0; i < n; i++) {
                x.offer(7, i);
                x.offer(6, i);
            }
            due("forget " + n, x.forget(7), n);
            due("again", x.forget(7), 0);
            due("the other key", x.forget(6), n);
        }
        x.offer(0, 5);
        x.test(0, 0, 5, 0);
        due("before", x.holds(0), true);
        x.forget(0);
        due("after", x.holds(0), false);
        x.offer(0, 6);
        due("the old one is gone", x.holds(0), false);
    }

    private static void decideArguments() {
        promise = 12;
        DecisionLayers x = new DecisionLayers();
        for (int wrongOne : new int[] {-1, 10, Integer.MIN_VALUE, Integer.MAX_VALUE}) {
            due("account " + wrongOne, x.decide(wrongOne, 0, 0, 0, 0), BAD);
            due("user " + wrongOne, x.decide(0, wrongOne, 0, 0, 0), BAD);
            due("owner " + wrongOne, x.decide(0, 0, 0, 0, wrongOne), BAD);
        }
        due("nothing was decided", x.layer(), -1);
        due("nothing applied", x.applied(0), -1);
        due("greatest", x.decide(9, 9, -1, -1, 9), REFUSED);
        due("least", x.decide(0, 0, 0, 0, 0), REFUSED);
    }

    /** Takes away, step by step, what decides first, so that the next step decides. */
    private static void decideOrder() {
        promise = 12;
        for (int l = 0; l < 6; l++) {
            DecisionLayers x = allAllowing();
            decided("before a denial", x, 1, ALLOWED, 4);
            deny(x, 5);
            deny(x, l);
            decided("lowest denial", x, 1, DENIED, l);
        }
        DecisionLayers x = new DecisionLayers();
        decided("nothing there", x, 1, REFUSED, 4);
        for (int l = 5; l >= 0; l--) {
            x.open(l);
        }
        decided("all open, none allows", x, 1, REFUSED, 0);
        allow(x, 0);
        decided("layer 0 allows", x, 1, REFUSED, 1);
        allow(x, 1);
        decided("layer 1 allows", x, 1, REFUSED, 4);
        decided("layer 1 allows, another's thing", x, 2, REFUSED, 4);
        allow(x, 4);
        decided("layer 4 allows", x, 1, REFUSED, 2);
        decided("layer 4 allows, another's thing", x, 2, REFUSED, 5);
        allow(x, 5);
        decided("layer 5 allows, another's thing", x, 2, REFUSED, 2);
        allow(x, 2);
        decided("layer 2 allows", x, 2, REFUSED, 3);
        allow(x, 3);
        decided("all allow", x, 2, ALLOWED, 4);
        x.drop(4);
        decided("layer 4 dropped, one's own thing", x, 1, ALLOWED, 5);
        decided("layer 4 dropped, another's thing", x, 2, REFUSED, 4);
        for (int l = 0; l < 4; l++) {
            x.drop(l);
            decided("dropped layers do not bar", x, 1, ALLOWED, 5);
        }
        x.open(4);
        decided("an open layer 4 does not bar", x, 1, ALLOWED, 5);
        x.open(2);
        decided("an open layer bars", x, 1, REFUSED, 2);
        x.drop(2);
        x.open(3);
        decided("likewise layer 3", x, 1, REFUSED, 3);
    }

    private static void decideOwnersAndNames() {
        promise = 12;
        DecisionLayers x = new DecisionLayers();
        x.state(5, 0, text("*"), text("*"), 112);
        x.open(2);
        x.open(3);
        due("the very user", x.decide(1, 2, 0, 0, 1), ALLOWED);
        due("layer", x.layer(), 5);
        due("another user", x.decide(1, 3, 0, 0, 1), REFUSED);
        due("layer", x.layer(), 4);
        due("the very user, another's thing", x.decide(1, 2, 0, 0, 2), REFUSED);
        due("layer", x.layer(), 4);
        x.open(1);
        due("layer 1 comes before", x.decide(1, 2, 0, 0, 1), REFUSED);
        due("layer", x.layer(), 1);
        x.drop(1);
        deny(x, 3);
        due("a denial comes before", x.decide(1, 2, 0, 0, 1), DENIED);
        due("layer", x.layer(), 3);
        for (int who : new int[] {EVERYBODY, 1}) {
            DecisionLayers y = new DecisionLayers();
            y.state(5, 0, text("*"), text("*"), who);
            due("not by name", y.decide(1, 2, 0, 0, 1), ALLOWED);
            y.open(2);
            due("not by name, barred", y.decide(1, 2, 0, 0, 1), REFUSED);
            due("layer", y.layer(), 2);
        }
        DecisionLayers z = new DecisionLayers();
        z.state(5, 0, text("x"), text("*"), 112);
        z.state(5, 0, text("*"), text("*"), 1);
        z.open(2);
        due("by name, but it does not apply", z.decide(1, 2, text("y"), 0, 1), REFUSED);
        due("layer", z.layer(), 2);
        due("by name, and it applies", z.decide(1, 2, text("x"), 0, 1), ALLOWED);
        decideWho();
    }

    private static void decideWho() {
        DecisionLayers x = new DecisionLayers();
        x.state(5, 0, text("*"), text("*"), EVERYBODY);
        x.state(5, 0, text("*"), text("*"), 0);
        x.state(5, 0, text("*"), text("*"), 9);
        x.state(5, 0, text("*"), text("*"), 100);
        x.state(5, 0, text("*"), text("*"), 190);
        x.state(5, DENY, text("*"), text("*"), 199);
        for (int account = 0; account < 10; account++) {
            for (int user = 0; user < 10; user++) {
                boolean last = account == 9 && user == 9;
                due("decide", x.decide(account, user, 0, 0, account), last ? DENIED : ALLOWED);
                int due = 1 + (account == 0 ? 2 : 0) + (account == 9 ? 4 : 0);
                due += (account == 0 && user == 0 ? 8 : 0) + (account == 9 && user == 0 ? 16 : 0) + (last ? 32 : 0);
                due("who means " + account + ", " + user, x.applied(5), due);
            }
        }
    }

    private static void decideStatements() {
        promise = 12;
        DecisionLayers x = new DecisionLayers();
        x.state(4, 0, text("Get*"), text("d/?"), EVERYBODY);
        x.state(4, OTHER_ACTIONS, text("Get*"), text("d/?"), EVERYBODY);
        x.state(4, OTHER_THINGS, text("Get*"), text("d/?"), EVERYBODY);
        x.state(4, OTHER_ACTIONS + OTHER_THINGS, text("Get*"), text("d/?"), EVERYBODY);
        x.state(4, OTHER_ACTIONS, text("$"), text("*"), EVERYBODY);
        x.state(4, OTHER_THINGS, text("*"), text("$3"), EVERYBODY);
        x.decide(0, 0, text("Getx"), text("d/1"), 0);
        due("both match", x.applied(4), 1 + 16 + 32);
        x.decide(0, 0, text("gETx"), text("d/1"), 0);
        due("the action loosely", x.applied(4), 1 + 16 + 32);
        x.decide(0, 0, text("Getx"), text("D/1"), 0);
        due("the thing not loosely", x.applied(4), 4 + 16 + 32);
        x.decide(0, 0, text("Put"), text("d/1"), 0);
        due("the action does not", x.applied(4), 2 + 16 + 32);
        x.decide(0, 0, text("Put"), text("d/12"), 0);
        due("neither does", x.applied(4), 8 + 16 + 32);
        x.offer(3, text("d/12"));
        x.decide(0, 0, text("Put"), text("d/12"), 0);
        due("the value is the thing", x.applied(4), 8 + 16);
        DecisionLayers y = new DecisionLayers();
        y.test(3, 0, 10, 0);
        y.state(4, CONDITIONAL, text("*"), text("*"), EVERYBODY);
        due("no value", y.decide(0, 0, 0, 0, 0), REFUSED);
        y.offer(0, 10);
        due("wrong value", y.decide(0, 0, 0, 0, 0), REFUSED);
        y.offer(0, 9);
        due("right value", y.decide(0, 0, 0, 0, 0), ALLOWED);
        y.state(4, OTHER_ACTIONS + DENY, text("a"), text("*"), EVERYBODY);
        due("other actions denied", y.decide(0, 0, text("b"), 0, 0), DENIED);
        due("this one not", y.decide(0, 0, text("A"), 0, 0), ALLOWED);
    }

    private static void layer() {
        promise = 13;
        DecisionLayers x = new DecisionLayers();
        due("none yet", x.layer(), -1);
        x.decide(0, 10, 0, 0, 0);
        due("a bad one does not count", x.layer(), -1);
        x.decide(0, 0, 0, 0, 0);
        due("refused", x.layer(), 4);
        allow(x, 4);
        due("statements do not decide", x.layer(), 4);
        x.decide(0, 0, 0, 0, 1);
        due("refused by the thing", x.layer(), 5);
        x.decide(0, 0, 0, 0, 10);
        due("a bad one changes nothing", x.layer(), 5);
        x.open(0);
        x.drop(4);
        due("neither do open and drop", x.layer(), 5);
        x.decide(0, 0, 0, 0, 0);
        due("a new decision", x.layer(), 0);
    }

    private static void applied() {
        promise = 14;
        DecisionLayers x = new DecisionLayers();
        allow(x, 0);
        due("none yet", x.applied(0), -1);
        x.decide(-1, 0, 0, 0, 0);
        due("a bad one does not count", x.applied(0), -1);
        x.decide(0, 0, 0, 0, 0);
        due("one", x.applied(0), 1);
        for (int l = 1; l < 6; l++) {
            due("a layer that is not there", x.applied(l), 0);
        }
        for (int wrongOne : new int[] {-1, 6, Integer.MIN_VALUE, Integer.MAX_VALUE}) {
            due("layer " + wrongOne, x.applied(wrongOne), -1);
        }
        deny(x, 0);
        x.state(0, 0, text("x"), text("*"), EVERYBODY);
        allow(x, 0);
        deny(x, 3);
        due("as it was then", x.applied(0), 1);
        due("as it was then", x.applied(3), 0);
        x.decide(0, 0, 0, 0, 0);
        due("three of four", x.applied(0), 1 + 2 + 8);
        due("layers above the deciding one", x.applied(3), 1);
        x.decide(0, 0, 0, 0, 11);
        x.drop(0);
        allow(x, 0);
        due("still as it was then", x.applied(0), 1 + 2 + 8);
        x.drop(0);
        x.decide(0, 0, 0, 0, 0);
        due("dropped", x.applied(0), 0);
        DecisionLayers y = new DecisionLayers();
        for (int k = 0; k < 6; k++) {
            allow(y, 2);
        }
        y.decide(0, 0, 0, 0, 0);
        due("all six", y.applied(2), 63);
    }

    private static void matches() {
        promise = 15;
        due("empty, empty", matches("", ""), true);
        due("empty, a", matches("", "a"), false);
        due("a, empty", matches("a", ""), false);
        due("?, empty", matches("?", ""), false);
        due("?, a", matches("?", "a"), true);
        due("?, ab", matches("?", "ab"), false);
        due("*, empty", matches("*", ""), true);
        due("*, eight", matches("*", "abcdefgh"), true);
        due("the whole text", matches("ab", "abc"), false);
        due("not only its end", matches("bc", "abc"), false);
        due("*bc", matches("*bc", "abc"), true);
        due("ab*", matches("ab*", "ab"), true);
        due("a*b*c", matches("a*b*c", "aXbbYc"), true);
        due("a*b*c without end", matches("a*b*c", "aXbbYcd"), false);
        due("a star taken back", matches("*ab", "aabab"), true);
        due("two stars taken back", matches("*a*ab", "aaab"), true);
        due("stars in a row", matches("********", ""), true);
        due("stars with a part missing", matches("*x*", "abcdefg"), false);
        due("?*?", matches("?*?", "a"), false);
        due("?*?", matches("?*?", "ab"), true);
        due("?*?", matches("?*?", "abcdefgh"), true);
        due("eight question marks", matches("????????", "abcdefgh"), true);
        due("eight question marks, seven", matches("????????", "abcdefg"), false);
        due("eight", matches("abcdefgh", "abcdefgh"), true);
        due("a star in the text is a character", matches("a", "*"), false);
        due("dollars in the text are characters", matches("*", "$$$"), true);
        due("a character stands for one", matches("ab", "b"), false);
        due("a character does not stand for none", matches("aa", "a"), false);
        due("the code 1", matches("a\u0001b", "a\u0001b"), true);
        due("the code 1 is no end", matches("a", "a\u0001"), false);
        due("the code 1 is no end of a pattern", matches("a\u0001", "a"), false);
        due("codes above 127", matches("\u00ff\u0080", "\u00ff\u0080"), true);
        due("codes above 127", matches("?\u0080", "\u00ff\u0081"), false);
        DecisionLayers x = new DecisionLayers();
        due("a text ends at a 0", x.matches(text("a"), text("a") | -1L << 16, false), true);
        due("a pattern ends at a 0", x.matches(text("a") | -1L << 16, text("a"), false), true);
        due("texts that begin with a 0", x.matches(-1L << 8, 1L << 9, false), true);
    }

    private static void matchesDollars() {
        promise = 15;
        due("$$", matches("$$", "$"), true);
        due("$*", matches("$*", "*"), true);
        due("$*, other", matches("$*", "ab"), false);
        due("$?", matches("$?", "?"), true);
        due("$?, other", matches("$?", "a"), false);
        due("$$$$", matches("$$$$", "$$"), true);
        due("$$*", matches("$$*", "$ab"), true);
        due("$$0", matches("$$0", "$0"), true);
        for (String pattern : new String[] {"$", "*$", "a$", "$a", "*$/", "*$8", "$$$", "*$0", "$\u0001", "abcdefg$", "*$A"}) {
            for (String text : new String[] {"", "a", "$", "$a", "a$", "$8", "$$", "abcdefg", "abcdefg$", "$A"}) {
                due(pattern + " matches nothing, " + text, matches(pattern, text), false);
            }
        }
        for (int key = 0; key < 8; key++) {
            DecisionLayers x = new DecisionLayers();
            long pattern = text("a$" + key + "*");
            due("no value", x.matches(pattern, text("abc"), false), false);
            x.offer(key, text("bc"));
            due("one value", x.matches(pattern, text("abc"), false), true);
            due("one value, other text", x.matches(pattern, text("abd"), false), false);
            due("one value, part of it", x.matches(pattern, text("ab"), false), false);
            due("another key", x.matches(text("a$" + (key + 1) % 8), text("abc"), false), false);
            x.offer(key, text("bc"));
            due("two values", x.matches(pattern, text("abc"), false), false);
            x.forget(key);
            due("none again", x.matches(pattern, text("abc"), false), false);
        }
        DecisionLayers x = new DecisionLayers();
        x.offer(0, 0);
        due("an empty value", x.matches(text("a$0b"), text("ab"), false), true);
        x.offer(1, text("*"));
        due("a star from a value", x.matches(text("$1"), text("ab"), false), false);
        due("a star from a value is itself", x.matches(text("$1"), text("*"), false), true);
        x.offer(2, text("$0"));
        due("a dollar from a value is itself", x.matches(text("$2"), text("$0"), false), true);
        due("a dollar from a value means no more", x.matches(text("$2"), 0, false), false);
        x.offer(3, text("ab"));
        due("four times", x.matches(text("$3$3$3$3"), text("abababab"), false), true);
        due("behind a star", x.matches(text("*$3"), text("aabab"), false), true);
        x.offer(4, text("abcdefgh"));
        due("longer than any text", x.matches(text("$4$4"), text("abcdefgh"), false), false);
        due("eight from a value", x.matches(text("$4*"), text("abcdefgh"), false), true);
        x.offer(5, text("ab") | -1L << 24);
        due("a value's text ends at a 0", x.matches(text("$5"), text("ab"), false), true);
    }

    private static void matchesLoosely() {
        promise = 15;
        for (int a = 1; a < 256; a++) {
            // A new object for each, since nothing is promised behind its 512th call.
            DecisionLayers y = new DecisionLayers();
            for (int b = 1; b < 256; b++) {
                if (a == '*' || a == '?' || a == '$') {
                    continue;
                }
                boolean letters = Math.min(a, b) >= 65 && Math.min(a, b) <= 90 && Math.abs(a - b) == 32;
                due(a + " like " + b, y.matches(a, b, true), a == b || letters);
                due(a + " is " + b, y.matches(a, b, false), a == b);
            }
        }
        DecisionLayers x = new DecisionLayers();
        x.offer(0, text("aB"));
        due("from a value", x.matches(text("$0*"), text("Abc"), true), true);
        due("from a value, not loosely", x.matches(text("$0*"), text("Abc"), false), false);
        due("behind a star", x.matches(text("*XY"), text("abxy"), true), true);
        due("other letters", x.matches(text("*XY"), text("abxz"), true), false);
        due("a wrong pattern", x.matches(text("*$"), text("a"), true), false);
    }

    private static void holds() {
        promise = 16;
        DecisionLayers x = new DecisionLayers();
        for (int wrongOne : EXTREMES) {
            due("holds " + wrongOne, x.holds(wrongOne), false);
        }
        due("none there", x.holds(0), false);
        for (int k = 0; k < 8; k++) {
            x.join(k % 3 == 0 ? ALL : ANY, 0);
        }
        for (int k = 0; k < 8; k++) {
            due("number " + k, x.holds(k), k % 3 == 0);
        }
        due("holds 8", x.holds(8), false);
        x.discard();
        x.discard();
        due("discarded", x.holds(6), false);
        DecisionLayers y = new DecisionLayers();
        y.test(0, 2, 5, 0);
        due("before the value", y.holds(0), false);
        y.offer(2, 5);
        due("with the value", y.holds(0), true);
        due("holds takes nothing away", y.pile(), 1);
        y.forget(2);
        due("without it", y.holds(0), false);
    }

    private static DecisionLayers allAllowing() {
        DecisionLayers x = new DecisionLayers();
        for (int l = 0; l < 6; l++) {
            allow(x, l);
        }
        return x;
    }

    private static void allow(DecisionLayers x, int layer) {
        x.state(layer, 0, text("*"), text("*"), EVERYBODY);
    }

    private static void deny(DecisionLayers x, int layer) {
        x.state(layer, DENY, text("*"), text("*"), EVERYBODY);
    }

    /** Account 1 asks. */
    private static void decided(String what, DecisionLayers x, int owner, int answer, int layer) {
        due(what, x.decide(1, 2, text("read"), text("d"), owner), answer);
        due(what + ": layer", x.layer(), layer);
    }

    private static boolean suits(int op, long t, long value) {
        return holds(op, t, 0, value);
    }

    private static boolean holds(int op, long t, int marks, long... values) {
        DecisionLayers x = new DecisionLayers();
        x.test(op, 1, t, marks);
        for (long value : values) {
            x.offer(1, value);
        }
        return x.holds(0);
    }

    private static boolean matches(String pattern, String text) {
        return new DecisionLayers().matches(text(pattern), text(text), false);
    }

    private static long net(long bits, long address) {
        return bits << 32 | address;
    }

    private static long text(String characters) {
        long text = 0;
        for (int i = characters.length() - 1; i >= 0; i--) {
            text = text << 8 | characters.charAt(i);
        }
        return text;
    }

    private static void due(String what, boolean got, boolean want) {
        due(what, got ? 1 : 0, want ? 1 : 0);
    }

    private static void due(String what, int got, int want) {
        if (got != want) {
            wrong++;
            System.out.println("promise " + promise + ": " + what + " answered " + got + ", due is " + want);
        }
    }
}
