/** For each sentence on a call that names a boundary case, a test of its own: promise by promise. */
public final class CallsBoundariesTest extends Checks {
    public static void main(String[] args) {
        constants();
        newObject();
        testAnswers();
        testBad();
        testFull();
        joinTakes();
        joinBad();
        joinFull();
        joinDeep();
        discard();
        pile();
        stateAnswers();
        stateHow();
        stateBad();
        stateFull();
        open();
        openRefused();
        drop();
        dropRefused();
        statements();
        offerAnswers();
        offerRefused();
        forget();
        decide();
        layer();
        applied();
        appliedRefused();
        matches();
        holds();
        end();
    }

    private static void constants() {
        says("`BAD = -2`");
        due("the constant", DecisionLayers.BAD, -2);
        due("a call that answers it", new DecisionLayers().statements(6), -2);
        says("`FULL = -3`: There is no room for one more.");
        due("the constant", DecisionLayers.FULL, -3);
        due("a call that answers it", withValues(0, 1, 2, 3, 4).offer(0, 5), -3);
        says("`DEEP = -4`: The condition would be deeper than 5.");
        due("the constant", DecisionLayers.DEEP, -4);
        DecisionLayers x = new DecisionLayers();
        putDeep(x, 4);
        due("5 is not deeper", x.join(ALL, 1), 1);
        due("6 is", x.join(ALL, 1), -4);
        says("`ALLOWED = 1, REFUSED = 0, DENIED = -1`: Answers of decide.");
        due("ALLOWED", DecisionLayers.ALLOWED, 1);
        due("REFUSED", DecisionLayers.REFUSED, 0);
        due("DENIED", DecisionLayers.DENIED, -1);
    }

    private static void newObject() {
        says("No layers present, no values, an empty pile.");
        DecisionLayers used = new DecisionLayers();
        used.offer(0, 1);
        used.open(0);
        used.test(0, 0, 0, 0);
        used.decide(0, 0, 0, 0, 0);
        DecisionLayers x = new DecisionLayers();
        for (int l = 0; l < LAYERS; l++) {
            due("statements of layer " + l, x.statements(l), -1);
            due("dropping layer " + l, x.drop(l), false);
        }
        for (int key = 0; key < KEYS; key++) {
            due("values of key " + key, x.forget(key), 0);
        }
        due("pile", x.pile(), 0);
        due("discard", x.discard(), false);
        due("holds", x.holds(0), false);
        due("nothing bars and nothing allows", x.decide(0, 0, 0, 0, 0), REFUSED);
        due("layer", x.layer(), 4);
    }

    private static void testAnswers() {
        says("Puts a test onto the pile and answers how many conditions are on it now.");
        for (int n = 0; n <= 7; n++) {
            DecisionLayers x = new DecisionLayers();
            for (int i = 1; i <= 8; i++) {
                due("number " + n + " as op, key and marks", x.test(n, n, n, n), i);
            }
        }
        DecisionLayers y = new DecisionLayers();
        due("the least t", y.test(0, 0, Long.MIN_VALUE, 0), 1);
        due("the greatest t", y.test(7, 7, Long.MAX_VALUE, 7), 2);
        y.discard();
        due("after a discard", y.test(0, 0, 0, 0), 2);
    }

    private static void testBad() {
        says("BAD when op or key is not 0 .. 7, or marks are not 0 .. 7");
        DecisionLayers x = new DecisionLayers();
        for (int number : outside(0, 7)) {
            due("op " + number, x.test(number, 0, 0, 0), BAD);
            due("key " + number, x.test(0, number, 0, 0), BAD);
            due("marks " + number, x.test(0, 0, 0, number), BAD);
        }
        due("nothing was put", x.pile(), 0);
    }

    private static void testFull() {
        says("FULL when 8 are on the pile");
        DecisionLayers x = new DecisionLayers();
        fillPile(x);
        due("a ninth", x.test(0, 0, 0, 0), FULL);
        x.discard();
        due("an eighth", x.test(0, 0, 0, 0), 8);
        due("a ninth again", x.test(7, 7, 0, 7), FULL);
    }

    private static void joinTakes() {
        says("Takes the n topmost conditions from the pile and puts ALL (kind 0), ANY (1) or NOT (2) of them on it");
        for (int size = 0; size <= 8; size++) {
            for (int n = size == 8 ? 1 : 0; n <= size; n++) {
                joinTakes(size, n);
            }
            if (size > 0) {
                DecisionLayers x = rising(size);
                due("NOT of one of " + size, x.join(NOT, 1), size);
                due("it holds", x.holds(size - 1), (size - 1) % 3 != 0);
            }
        }
    }

    private static void joinTakes(int size, int n) {
        for (int kind = ALL; kind <= ANY; kind++) {
            DecisionLayers x = rising(size);
            due("kind " + kind + ", " + n + " of " + size, x.join(kind, n), size - n + 1);
            boolean all = true, any = false;
            for (int k = size - n; k < size; k++) {
                all &= k % 3 == 0;
                any |= k % 3 == 0;
            }
            due("kind " + kind + ", " + n + " of " + size + ": it holds", x.holds(size - n), kind == ALL ? all : any);
            for (int k = 0; k < size - n; k++) {
                due("kind " + kind + ", " + n + " of " + size + ": number " + k, x.holds(k), k % 3 == 0);
            }
        }
    }

    /** A pile of which every third condition holds, from the lowest on. */
    private static DecisionLayers rising(int size) {
        DecisionLayers x = new DecisionLayers();
        for (int k = 0; k < size; k++) {
            put(x, k % 3 == 0);
        }
        return x;
    }

    private static void joinBad() {
        says("BAD when kind is not 0 .. 2");
        for (int kind : outside(0, 2)) {
            due("kind " + kind + " of one", rising(2).join(kind, 1), BAD);
            due("kind " + kind + " of none", rising(2).join(kind, 0), BAD);
        }
        says("n is not 0 .. 8");
        for (int kind = ALL; kind <= NOT; kind++) {
            for (int n : outside(0, 8)) {
                due("kind " + kind + ", n " + n, rising(0).join(kind, n), BAD);
                due("kind " + kind + ", n " + n + ", a full pile", rising(8).join(kind, n), BAD);
            }
        }
        says("n is not 1 for NOT");
        for (int n = 0; n <= 8; n++) {
            due("NOT of " + n, rising(8).join(NOT, n), n == 1 ? 8 : BAD);
        }
        due("NOT of none, an empty pile", rising(0).join(NOT, 0), BAD);
        says("or fewer than n are on the pile");
        for (int size = 0; size < 8; size++) {
            for (int n = size + 1; n <= 8; n++) {
                due("ALL of " + n + ", there being " + size, rising(size).join(ALL, n), BAD);
                due("ANY of " + n + ", there being " + size, rising(size).join(ANY, n), BAD);
            }
        }
        due("NOT of one, there being none", rising(0).join(NOT, 1), BAD);
    }

    private static void joinFull() {
        says("FULL when n is 0 and 8 are on it");
        for (int kind = ALL; kind <= ANY; kind++) {
            due("kind " + kind + " of none, 8 being there", rising(8).join(kind, 0), FULL);
            due("kind " + kind + " of none, 7 being there", rising(7).join(kind, 0), 8);
            due("kind " + kind + " of one, 8 being there", rising(8).join(kind, 1), 8);
            due("kind " + kind + " of 8, 8 being there", rising(8).join(kind, 8), 1);
        }
    }

    private static void joinDeep() {
        says("DEEP.");
        for (int kind = ALL; kind <= NOT; kind++) {
            for (int depth = 1; depth <= 5; depth++) {
                DecisionLayers x = new DecisionLayers();
                putDeep(x, depth);
                due("kind " + kind + " of one of depth " + depth, x.join(kind, 1), depth == 5 ? DEEP : 1);
            }
        }
        DecisionLayers y = new DecisionLayers();
        putDeep(y, 5);
        due("none upon a deep one", y.join(ALL, 0), 2);
        due("both", y.join(ANY, 2), DEEP);
        due("the shallow one", y.join(ANY, 1), 2);
        y.discard();
        fillPile(y);
        due("a deep one as the lowest of 8", y.join(ALL, 8), DEEP);
        due("the 7 upon it", y.join(ALL, 7), 2);
    }

    private static void discard() {
        says("Takes the topmost condition from the pile; false when there is none.");
        DecisionLayers x = rising(8);
        for (int size = 7; size >= 0; size--) {
            due("there being " + (size + 1), x.discard(), true);
            due("pile", x.pile(), size);
            for (int k = 0; k < 8; k++) {
                due("number " + k + " of " + size, x.holds(k), k < size && k % 3 == 0);
            }
        }
        due("there being none", x.discard(), false);
        due("there still being none", x.discard(), false);
        due("pile", x.pile(), 0);
        due("one more", x.join(ALL, 0), 1);
    }

    private static void pile() {
        says("How many conditions are on the pile.");
        for (int size = 0; size <= 8; size++) {
            due("pile of " + size, rising(size).pile(), size);
        }
        DecisionLayers x = rising(8);
        x.test(0, 0, 0, 0);
        due("after a ninth", x.pile(), 8);
        x.join(ALL, 8);
        due("after a join of all", x.pile(), 1);
        x.state(0, CONDITIONAL, 0, 0, EVERYBODY);
        due("after a statement took the last", x.pile(), 0);
        x.drop(0);
        due("after the statement was dropped", x.pile(), 0);
    }

    private static void stateAnswers() {
        says("Adds a statement to a layer, which is present then, and answers its number.");
        for (int l = 0; l < LAYERS; l++) {
            DecisionLayers x = new DecisionLayers();
            for (int k = 0; k < LAYER_ROOM; k++) {
                due("statement of layer " + l, x.state(l, 0, 0, 0, EVERYBODY), k);
                due("statements of layer " + l, x.statements(l), k + 1);
                due("it is present", x.open(l), false);
            }
            for (int other = 0; other < LAYERS; other++) {
                due("present is layer " + other, x.open(other), other != l);
            }
            x.drop(l);
            due("after a drop", x.state(l, 0, 0, 0, EVERYBODY), 0);
        }
    }

    private static void stateHow() {
        says("8 if the topmost condition of the pile, which is taken from it, is its condition (else it has none)");
        for (int how = 0; how <= 15; how++) {
            DecisionLayers x = new DecisionLayers();
            put(x, true);
            put(x, false);
            due("how " + how, x.state(1, how, STAR, STAR, EVERYBODY), 0);
            due("how " + how + ": pile", x.pile(), how >= 8 ? 1 : 2);
            due("how " + how + ": the lowest is left", x.holds(0), true);
            due("how " + how + ": the topmost", x.holds(1), false);
            x.decide(0, 0, 0, 0, 0);
            boolean turned = (how & OTHER_ACTIONS + OTHER_THINGS) != 0;
            due("how " + how + ": it applies", x.applied(1), turned || how >= 8 ? 0 : 1);
        }
        for (int how = 0; how <= 15; how++) {
            DecisionLayers x = rising(1);
            boolean otherActions = (how & OTHER_ACTIONS) != 0, otherThings = (how & OTHER_THINGS) != 0;
            x.state(4, how, otherActions ? 'x' : STAR, otherThings ? 'x' : STAR, EVERYBODY);
            due("how " + how + ": it decides", x.decide(0, 0, 0, 0, 0), how % 2 == 1 ? DENIED : ALLOWED);
        }
    }

    private static void stateBad() {
        says("BAD when layer is not 0 .. 5");
        for (int layer : outside(0, 5)) {
            due("layer " + layer, rising(1).state(layer, 0, STAR, STAR, EVERYBODY), BAD);
        }
        says("how not 0 .. 15");
        for (int l = 0; l < LAYERS; l++) {
            for (int how : outside(0, 15)) {
                due("layer " + l + ", how " + how, rising(1).state(l, how, STAR, STAR, EVERYBODY), BAD);
            }
        }
        says("who not one of the numbers that are told");
        for (int who : new int[] {-2, 10, 11, 90, 99, 200, 201, 209, 1000, -100, -112, 256, Integer.MIN_VALUE, Integer.MAX_VALUE}) {
            due("who " + who, rising(1).state(5, 0, STAR, STAR, who), BAD);
        }
        for (int who : new int[] {-1, 0, 9, 100, 109, 110, 190, 199}) {
            due("who " + who, rising(1).state(5, 0, STAR, STAR, who), 0);
        }
        says("or not -1 in the layers 0 to 4");
        for (int l = 0; l < LAYERS; l++) {
            due("layer " + l + ", who 0", rising(1).state(l, 0, STAR, STAR, 0), l == 5 ? 0 : BAD);
            due("layer " + l + ", who 199", rising(1).state(l, 0, STAR, STAR, 199), l == 5 ? 0 : BAD);
            due("layer " + l + ", who -1", rising(1).state(l, 0, STAR, STAR, -1), 0);
        }
        says("or a condition is wanted and none is on the pile");
        for (int l = 0; l < LAYERS; l++) {
            for (int how = 8; how <= 15; how++) {
                due("layer " + l + ", how " + how + ", none", rising(0).state(l, how, STAR, STAR, EVERYBODY), BAD);
                due("layer " + l + ", how " + how + ", one", rising(1).state(l, how, STAR, STAR, EVERYBODY), 0);
                due("layer " + l + ", none is wanted", rising(0).state(l, how - 8, STAR, STAR, EVERYBODY), 0);
            }
        }
    }

    private static void stateFull() {
        says("FULL when the layer has 6");
        DecisionLayers x = rising(1);
        for (int l = 0; l < LAYERS; l++) {
            for (int k = 0; k < LAYER_ROOM; k++) {
                x.state(l, DENY, 'x', STAR, EVERYBODY);
            }
            due("a seventh in layer " + l, x.state(l, 0, STAR, STAR, EVERYBODY), FULL);
            due("a seventh with a condition in layer " + l, x.state(l, CONDITIONAL, STAR, STAR, EVERYBODY), FULL);
            due("the condition is left", x.pile(), 1);
            due("six are left", x.statements(l), 6);
        }
        x.drop(3);
        due("room again", x.state(3, CONDITIONAL, STAR, STAR, EVERYBODY), 0);
        due("no room in the next layer", x.state(4, 0, STAR, STAR, EVERYBODY), FULL);
    }

    private static void open() {
        says("Makes a layer present (it keeps its statements, if it has some).");
        for (int l = 0; l < LAYERS; l++) {
            DecisionLayers x = new DecisionLayers();
            due("layer " + l, x.open(l), true);
            for (int other = 0; other < LAYERS; other++) {
                due("layer " + l + " is open, statements of " + other, x.statements(other), other == l ? 0 : -1);
            }
            due("its first statement", x.state(l, DENY, STAR, STAR, EVERYBODY), 0);
            due("again", x.open(l), false);
            due("it keeps its statement", x.statements(l), 1);
            due("which denies", x.decide(0, 0, 0, 0, 0), DENIED);
            x.drop(l);
            due("after a drop", x.open(l), true);
            due("it came back empty", x.statements(l), 0);
            due("and denies no more", x.decide(0, 0, 0, 0, 0), REFUSED);
        }
    }

    private static void openRefused() {
        says("Answers true; false when layer is not 0 .. 5 or it is present.");
        DecisionLayers x = new DecisionLayers();
        for (int layer : outside(0, 5)) {
            due("layer " + layer, x.open(layer), false);
        }
        for (int l = 0; l < LAYERS; l++) {
            due("not present", x.open(l), true);
            due("present by open", x.open(l), false);
            x.drop(l);
            x.state(l, 0, 0, 0, EVERYBODY);
            due("present by a statement", x.open(l), false);
        }
    }

    private static void drop() {
        says("Drops a layer with its statements: it is not present.");
        for (int l = 0; l < LAYERS; l++) {
            DecisionLayers x = new DecisionLayers();
            for (int other = 0; other < LAYERS; other++) {
                for (int k = 0; k < LAYER_ROOM; k++) {
                    x.state(other, other == l ? DENY : 0, STAR, STAR, EVERYBODY);
                }
            }
            due("before", x.decide(0, 0, 0, 0, 0), DENIED);
            due("with six statements", x.drop(l), true);
            for (int other = 0; other < LAYERS; other++) {
                due("statements of " + other, x.statements(other), other == l ? -1 : 6);
            }
            due("after", x.decide(0, 0, 0, 0, 0), ALLOWED);
            due("no statement of it applies", x.applied(l), 0);
            due("its numbers begin anew", x.state(l, 0, 'x', STAR, EVERYBODY), 0);
            x.decide(0, 0, 0, 0, 0);
            due("its old statements are gone", x.applied(l), 0);
        }
    }

    private static void dropRefused() {
        says("Answers true; false when layer is not 0 .. 5 or it is not present.");
        DecisionLayers x = new DecisionLayers();
        for (int l = 0; l < LAYERS; l++) {
            due("not present", x.drop(l), false);
            x.open(l);
        }
        for (int layer : outside(0, 5)) {
            due("layer " + layer, x.drop(layer), false);
        }
        for (int l = 0; l < LAYERS; l++) {
            due("present by open", x.drop(l), true);
            due("dropped", x.drop(l), false);
            x.state(l, 0, 0, 0, EVERYBODY);
            due("present by a statement", x.drop(l), true);
            due("dropped again", x.drop(l), false);
        }
    }

    private static void statements() {
        says("How many statements a layer has; -1 when it is not present; BAD when layer is not 0 .. 5.");
        DecisionLayers x = new DecisionLayers();
        for (int layer : outside(0, 5)) {
            due("layer " + layer, x.statements(layer), BAD);
        }
        for (int l = 0; l < LAYERS; l++) {
            due("not present", x.statements(l), -1);
            x.open(l);
            for (int n = 0; n <= LAYER_ROOM; n++) {
                due("layer " + l, x.statements(l), n);
                x.state(l, n, 0, 0, EVERYBODY);
            }
            due("after a seventh", x.statements(l), 6);
        }
        for (int l = 0; l < LAYERS; l++) {
            x.drop(l);
            due("dropped", x.statements(l), -1);
        }
    }

    private static void offerAnswers() {
        says("Adds a value at the end of a key's list and answers how many it has now.");
        for (int key = 0; key < KEYS; key++) {
            DecisionLayers x = new DecisionLayers();
            for (int n = 1; n <= KEY_ROOM; n++) {
                due("the same value", x.offer(key, 5), n);
            }
            for (int other = 0; other < KEYS; other++) {
                due("values of key " + other, x.forget(other), other == key ? 4 : 0);
            }
            due("after forget", x.offer(key, Long.MIN_VALUE), 1);
            due("the greatest value", x.offer(key, Long.MAX_VALUE), 2);
        }
    }

    private static void offerRefused() {
        says("BAD when key is not 0 .. 7; FULL when it has 4.");
        DecisionLayers x = new DecisionLayers();
        for (int key : outside(0, 7)) {
            due("key " + key, x.offer(key, 1), BAD);
        }
        for (int key = 0; key < KEYS; key++) {
            for (int n = 1; n <= KEY_ROOM; n++) {
                due("value " + n, x.offer(key, 1), n);
            }
            due("a fifth of key " + key, x.offer(key, 2), FULL);
            x.test(0, key, 1, EACH);
            due("it was not added", x.holds(0), true);
            x.discard();
            due("four are left", x.forget(key), 4);
        }
    }

    private static void forget() {
        says("Takes all values of a key away and answers how many there were; BAD when key is not 0 .. 7.");
        DecisionLayers x = new DecisionLayers();
        x.test(7, 3, 1, 0);
        for (int key : outside(0, 7)) {
            due("key " + key, x.forget(key), BAD);
        }
        for (int n = 0; n <= KEY_ROOM; n++) {
            for (int i = 0; i < n; i++) {
                x.offer(2, i);
                x.offer(3, i);
                x.offer(4, i);
            }
            due("there being " + n, x.forget(3), n);
            due("there being none", x.forget(3), 0);
            due("the key has none", x.holds(0), true);
            due("the key below", x.forget(2), n);
            due("the key above", x.forget(4), n);
        }
    }

    private static void decide() {
        says("BAD, and nothing is decided, when account, user or owner is not 0 .. 9");
        DecisionLayers x = new DecisionLayers();
        deny(x, 3);
        DecisionLayers y = new DecisionLayers();
        deny(y, 3);
        y.decide(0, 0, 0, 0, 0);
        y.drop(3);
        allow(y, 4);
        for (int number : outside(0, 9)) {
            due("account " + number, x.decide(number, 0, 0, 0, 0), BAD);
            due("user " + number, x.decide(0, number, 0, 0, 0), BAD);
            due("owner " + number, x.decide(0, 0, 0, 0, number), BAD);
            due("account and owner " + number, x.decide(number, 0, 0, 0, number), BAD);
            due("nothing has decided", x.layer(), -1);
            due("nothing has applied", x.applied(3), -1);
            y.decide(number, 0, 0, 0, 0);
            y.decide(0, number, 0, 0, 0);
            y.decide(0, 0, 0, 0, number);
            due("what decided before", y.layer(), 3);
            due("what applied before", y.applied(3), 1);
            due("what did not apply before", y.applied(4), 0);
        }
        for (int number = 0; number <= 9; number++) {
            due("account and owner " + number, y.decide(number, 0, 0, 0, number), ALLOWED);
            due("user " + number, y.decide(0, number, 0, 0, 0), ALLOWED);
        }
    }

    private static void layer() {
        says("The layer that decided in the latest decide that was not BAD; -1 when there was none.");
        DecisionLayers x = new DecisionLayers();
        due("none", x.layer(), -1);
        x.decide(10, 0, 0, 0, 0);
        due("only a BAD one", x.layer(), -1);
        x.open(0);
        due("still none", x.layer(), -1);
        x.decide(0, 0, 0, 0, 0);
        due("layer 0", x.layer(), 0);
        x.decide(0, -1, 0, 0, 0);
        due("a BAD one since", x.layer(), 0);
        x.drop(0);
        due("it was dropped since", x.layer(), 0);
        x.decide(0, 0, 0, 0, 0);
        due("a later one", x.layer(), 4);
        deny(x, 5);
        due("a statement since", x.layer(), 4);
        x.decide(0, 0, 0, 0, 0);
        due("the highest layer", x.layer(), 5);
    }

    private static void applied() {
        says("the sum of 2^k for number k of them (as they were numbered then; 0 for a layer that was not present)");
        for (int l = 0; l < LAYERS; l++) {
            for (int set = 0; set < 64; set++) {
                DecisionLayers x = new DecisionLayers();
                for (int k = 0; k < LAYER_ROOM; k++) {
                    x.state(l, k % 2, (set >> k & 1) != 0 ? STAR : 'x', STAR, EVERYBODY);
                }
                x.decide(0, 0, 0, 0, 0);
                due("of six in layer " + l, x.applied(l), set);
                due("of a layer that was not present", x.applied((l + 1) % LAYERS), 0);
            }
        }
        DecisionLayers y = new DecisionLayers();
        allow(y, 0);
        deny(y, 0);
        y.open(1);
        deny(y, 5);
        y.decide(0, 0, 0, 0, 0);
        due("of a layer that was empty", y.applied(1), 0);
        due("of a layer above the one that decided", y.applied(5), 1);
        y.drop(0);
        due("the layer was dropped since", y.applied(0), 3);
        y.state(0, 0, 'x', STAR, EVERYBODY);
        due("it has others since", y.applied(0), 3);
        allow(y, 1);
        due("a statement since", y.applied(1), 0);
        y.open(2);
        due("a layer opened since", y.applied(2), 0);
        y.decide(0, 0, 0, 0, 0);
        due("in the latest one", y.applied(0), 0);
        due("in the latest one", y.applied(1), 1);
    }

    private static void appliedRefused() {
        says("-1 when there was no such decide or layer is not 0 .. 5");
        DecisionLayers x = new DecisionLayers();
        for (int l = 0; l < LAYERS; l++) {
            allow(x, l);
            due("no decide", x.applied(l), -1);
        }
        x.decide(0, 0, 0, 0, 10);
        for (int l = 0; l < LAYERS; l++) {
            due("only a BAD one", x.applied(l), -1);
        }
        for (int layer : outside(0, 5)) {
            due("no decide, layer " + layer, x.applied(layer), -1);
        }
        x.decide(0, 0, 0, 0, 0);
        for (int layer : outside(0, 5)) {
            due("layer " + layer, x.applied(layer), -1);
        }
        due("the lowest layer", x.applied(0), 1);
        due("the highest layer", x.applied(5), 1);
    }

    private static void matches() {
        says("Whether a pattern matches a text, loosely or not, with the values that the keys have now.");
        DecisionLayers x = new DecisionLayers();
        due("before a value", x.matches(text("$0"), text("ab"), false), false);
        x.offer(0, text("ab"));
        due("with a value", x.matches(text("$0"), text("ab"), false), true);
        due("with a value, not loosely", x.matches(text("$0"), text("AB"), false), false);
        due("with a value, loosely", x.matches(text("$0"), text("AB"), true), true);
        x.offer(0, text("ab"));
        due("with two", x.matches(text("$0"), text("ab"), false), false);
        x.forget(0);
        due("with none", x.matches(text("$0"), text("ab"), false), false);
        x.offer(0, text("cd"));
        due("with another", x.matches(text("$0"), text("ab"), false), false);
        due("with another, that one", x.matches(text("$0"), text("cd"), false), true);
    }

    private static void holds() {
        says("Whether the condition that is number k of the pile (0 the lowest) holds now; false when there is none.");
        for (int size = 0; size <= 8; size++) {
            DecisionLayers x = rising(size);
            for (int k = 0; k <= 9; k++) {
                due("number " + k + " of " + size, x.holds(k), k < size && k % 3 == 0);
            }
            for (int k : outside(0, 7)) {
                due("number " + k + " of " + size, x.holds(k), false);
            }
        }
        DecisionLayers y = new DecisionLayers();
        y.test(0, 0, 5, 0);
        due("before the value", y.holds(0), false);
        y.offer(0, 5);
        due("with the value", y.holds(0), true);
        y.forget(0);
        due("without the value", y.holds(0), false);
        y.offer(0, 5);
        y.state(0, CONDITIONAL, 0, 0, EVERYBODY);
        due("taken by a statement", y.holds(0), false);
    }
}
