import java.util.ArrayList;
import java.util.List;

/**
 * The two sentences of the document that bind every refusal. After a refused call an object must
 * answer a long row of calls just as its twin does, which was made alike and not called so.
 */
public final class RefusalsTest extends Checks {
    private static final int UNCHANGED = 0;

    private interface Making {
        DecisionLayers make();
    }

    private interface Call {
        int on(DecisionLayers x);
    }

    public static void main(String[] args) {
        nothingChanges();
        firstReasonFirst();
        end();
    }

    private static void nothingChanges() {
        says("A call that is refused changes nothing.");
        Making[] makings = {DecisionLayers::new, RefusalsTest::busy, RefusalsTest::decided, RefusalsTest::full};
        for (int m = 0; m < makings.length; m++) {
            String object = "object " + m;
            refusesNumbers(object, makings[m]);
            refusesConditions(object, makings[m]);
            refusesStatements(object, makings[m]);
        }
        refusesOnNew();
        refusesOnBusy(RefusalsTest::busy);
        refusesOnBusy(RefusalsTest::decided);
        refusesOnFull();
    }

    /** Calls that are refused in any state, for a key, a layer, an account or a user that there is not. */
    private static void refusesNumbers(String object, Making making) {
        for (int number : outside(0, 9)) {
            String what = object + ", number " + number;
            refuses(what + ", open", making, x -> x.open(number) ? 1 : 0, 0);
            refuses(what + ", drop", making, x -> x.drop(number) ? 1 : 0, 0);
            refuses(what + ", statements", making, x -> x.statements(number), BAD);
            refuses(what + ", offer", making, x -> x.offer(number, 5), BAD);
            refuses(what + ", forget", making, x -> x.forget(number), BAD);
            refuses(what + ", account", making, x -> x.decide(number, 2, 'b', 'x', 1), BAD);
            refuses(what + ", user", making, x -> x.decide(1, number, 'b', 'x', 1), BAD);
            refuses(what + ", owner", making, x -> x.decide(1, 2, 'b', 'x', number), BAD);
            refuses(what + ", applied", making, x -> x.applied(number), -1);
            refuses(what + ", holds", making, x -> x.holds(number) ? 1 : 0, 0);
        }
    }

    private static void refusesConditions(String object, Making making) {
        for (int number : outside(0, 8)) {
            String what = object + ", number " + number;
            refuses(what + ", op", making, x -> x.test(number, 0, 0, 0), BAD);
            refuses(what + ", key", making, x -> x.test(0, number, 0, 0), BAD);
            refuses(what + ", marks", making, x -> x.test(0, 0, 0, number), BAD);
            refuses(what + ", kind", making, x -> x.join(number, 1), BAD);
            refuses(what + ", kind of none", making, x -> x.join(number, 0), BAD);
            refuses(what + ", n for ALL", making, x -> x.join(ALL, number), BAD);
            refuses(what + ", n for ANY", making, x -> x.join(ANY, number), BAD);
            refuses(what + ", n for NOT", making, x -> x.join(NOT, number), BAD);
        }
        refuses(object + ", op 8", making, x -> x.test(8, 0, 0, 0), BAD);
        refuses(object + ", key 8", making, x -> x.test(0, 8, 0, 0), BAD);
        refuses(object + ", marks 8", making, x -> x.test(0, 0, 0, 8), BAD);
        refuses(object + ", kind 3", making, x -> x.join(3, 0), BAD);
        refuses(object + ", NOT of none", making, x -> x.join(NOT, 0), BAD);
        refuses(object + ", NOT of two", making, x -> x.join(NOT, 2), BAD);
    }

    private static void refusesStatements(String object, Making making) {
        for (int number : outside(-1, 199)) {
            String what = object + ", number " + number;
            refuses(what + ", layer", making, x -> x.state(number, DENY, STAR, STAR, EVERYBODY), BAD);
            refuses(what + ", how", making, x -> x.state(2, number, STAR, STAR, EVERYBODY), BAD);
            refuses(what + ", who", making, x -> x.state(5, DENY, STAR, STAR, number), BAD);
            refuses(what + ", who, with a condition", making, x -> x.state(5, DENY + CONDITIONAL, STAR, STAR, number), BAD);
        }
        refuses(object + ", layer 6", making, x -> x.state(6, CONDITIONAL, STAR, STAR, EVERYBODY), BAD);
        refuses(object + ", layer -1", making, x -> x.state(-1, CONDITIONAL, STAR, STAR, EVERYBODY), BAD);
        refuses(object + ", how -1", making, x -> x.state(2, -1, STAR, STAR, EVERYBODY), BAD);
        refuses(object + ", how 16", making, x -> x.state(2, 16, STAR, STAR, EVERYBODY), BAD);
        refuses(object + ", who 10", making, x -> x.state(5, CONDITIONAL, STAR, STAR, 10), BAD);
        refuses(object + ", who 99", making, x -> x.state(5, CONDITIONAL, STAR, STAR, 99), BAD);
        for (int l = 0; l <= 4; l++) {
            int layer = l;
            refuses(object + ", an account in layer " + l, making, x -> x.state(layer, CONDITIONAL, STAR, STAR, 1), BAD);
            refuses(object + ", a user in layer " + l, making, x -> x.state(layer, DENY, STAR, STAR, 112), BAD);
        }
        refuses(object + ", open 6", making, x -> x.open(6) ? 1 : 0, 0);
        refuses(object + ", drop 6", making, x -> x.drop(6) ? 1 : 0, 0);
        refuses(object + ", statements 6", making, x -> x.statements(6), BAD);
        refuses(object + ", applied 6", making, x -> x.applied(6), -1);
        refuses(object + ", offer 8", making, x -> x.offer(8, 5), BAD);
        refuses(object + ", forget 8", making, x -> x.forget(8), BAD);
        refuses(object + ", holds 8", making, x -> x.holds(8) ? 1 : 0, 0);
    }

    private static void refusesOnNew() {
        Making making = DecisionLayers::new;
        refuses("discard", making, x -> x.discard() ? 1 : 0, 0);
        refuses("layer", making, x -> x.layer(), -1);
        refuses("holds", making, x -> x.holds(0) ? 1 : 0, 0);
        for (int i = 0; i < LAYERS; i++) {
            int l = i;
            refuses("drop " + l, making, x -> x.drop(l) ? 1 : 0, 0);
            refuses("statements " + l, making, x -> x.statements(l), -1);
            refuses("applied " + l, making, x -> x.applied(l), -1);
            refuses("a condition wanted in layer " + l, making, x -> x.state(l, CONDITIONAL, STAR, STAR, EVERYBODY), BAD);
        }
        for (int i = 1; i <= PILE_ROOM; i++) {
            int n = i;
            refuses("ALL of " + n, making, x -> x.join(ALL, n), BAD);
            refuses("ANY of " + n, making, x -> x.join(ANY, n), BAD);
            refuses("NOT of " + n, making, x -> x.join(NOT, n), BAD);
        }
    }

    /** The pile has 3, of which the topmost is as deep as may be; the layers 0, 2, 4 and 5 are present. */
    private static void refusesOnBusy(Making making) {
        for (int i = 0; i < LAYERS; i++) {
            int l = i;
            boolean present = l != 1 && l != 3;
            refuses("open or drop " + l, making, x -> (present ? x.open(l) : x.drop(l)) ? 1 : 0, 0);
        }
        for (int i = ALL; i <= NOT; i++) {
            int kind = i;
            refuses("too deep, kind " + kind, making, x -> x.join(kind, 1), DEEP);
            refuses("too many, kind " + kind, making, x -> x.join(kind, 4), BAD);
        }
        refuses("too deep, ALL of 3", making, x -> x.join(ALL, 3), DEEP);
        refuses("too deep, ANY of 2", making, x -> x.join(ANY, 2), DEEP);
        refuses("a fifth value", making, x -> x.offer(2, 5), FULL);
        refuses("holds 3", making, x -> x.holds(3) ? 1 : 0, 0);
    }

    private static void refusesOnFull() {
        Making making = RefusalsTest::full;
        refuses("a ninth test", making, x -> x.test(7, 1, 1, 1), FULL);
        refuses("a ninth ALL", making, x -> x.join(ALL, 0), FULL);
        refuses("a ninth ANY", making, x -> x.join(ANY, 0), FULL);
        for (int i = 1; i <= PILE_ROOM; i++) {
            int n = i;
            refuses("too deep, ALL of " + n, making, x -> x.join(ALL, n), DEEP);
            refuses("too deep, ANY of " + n, making, x -> x.join(ANY, n), DEEP);
        }
        refuses("too deep, NOT", making, x -> x.join(NOT, 1), DEEP);
        for (int i = 0; i < LAYERS; i++) {
            int l = i;
            refuses("open " + l, making, x -> x.open(l) ? 1 : 0, 0);
            for (int h = 0; h <= 15; h++) {
                int how = h;
                refuses("a seventh in layer " + l + ", how " + how, making, x -> x.state(l, how, STAR, STAR, EVERYBODY), FULL);
            }
        }
        for (int i = 0; i < KEYS; i++) {
            int key = i;
            refuses("a fifth value of key " + key, making, x -> x.offer(key, 6), FULL);
        }
    }

    private static void firstReasonFirst() {
        says("What is said first as a reason for a refusal is tested first.");
        Making full = RefusalsTest::full;
        for (int number : new int[] {-1, 8}) {
            refuses("test: BAD op before FULL", full, x -> x.test(number, 0, 0, 0), BAD);
            refuses("test: BAD key before FULL", full, x -> x.test(0, number, 0, 0), BAD);
            refuses("test: BAD marks before FULL", full, x -> x.test(0, 0, 0, number), BAD);
            refuses("join: BAD kind before FULL", full, x -> x.join(number, 0), BAD);
            refuses("join: BAD kind before DEEP", full, x -> x.join(number, 1), BAD);
        }
        refuses("join: NOT of none before FULL", full, x -> x.join(NOT, 0), BAD);
        refuses("join: NOT of two before DEEP", full, x -> x.join(NOT, 2), BAD);
        refuses("join: BAD n before DEEP", full, x -> x.join(ALL, 9), BAD);
        refuses("join: BAD n before FULL and DEEP", full, x -> x.join(ANY, -1), BAD);
        refuses("join: fewer than n before DEEP", RefusalsTest::busy, x -> x.join(ALL, 4), BAD);
        refuses("join: fewer than 8 before DEEP", RefusalsTest::busy, x -> x.join(ANY, 8), BAD);
        refuses("state: BAD how before FULL", full, x -> x.state(3, 16, STAR, STAR, EVERYBODY), BAD);
        refuses("state: BAD how before FULL", full, x -> x.state(3, -1, STAR, STAR, EVERYBODY), BAD);
        refuses("state: BAD who before FULL", full, x -> x.state(5, 0, STAR, STAR, 10), BAD);
        refuses("state: BAD who before FULL", full, x -> x.state(5, CONDITIONAL, STAR, STAR, 200), BAD);
        refuses("state: who in a lower layer before FULL", full, x -> x.state(4, 0, STAR, STAR, 1), BAD);
        refuses("state: no condition before FULL", RefusalsTest::fullButForThePile, x -> x.state(3, CONDITIONAL, STAR, STAR, EVERYBODY), BAD);
        refuses("state: without one FULL", RefusalsTest::fullButForThePile, x -> x.state(3, 0, STAR, STAR, EVERYBODY), FULL);
        refuses("offer: BAD key before FULL", full, x -> x.offer(8, 1), BAD);
    }

    private static void refuses(String what, Making making, Call call, int answer) {
        DecisionLayers called = making.make(), twin = making.make();
        due(what, call.on(called), answer);
        due(what + ": calls behind it that answer otherwise", differences(called, twin), UNCHANGED);
    }

    private static int differences(DecisionLayers called, DecisionLayers twin) {
        List<Integer> got = answers(called), want = answers(twin);
        int differences = Math.abs(got.size() - want.size());
        for (int i = 0; i < Math.min(got.size(), want.size()); i++) {
            differences += got.get(i).equals(want.get(i)) ? 0 : 1;
        }
        return differences;
    }

    /** What can be seen of an object, from what changes nothing on to what takes it to pieces. */
    private static List<Integer> answers(DecisionLayers x) {
        List<Integer> answers = new ArrayList<>();
        answers.add(x.layer());
        answers.add(x.pile());
        for (int l = 0; l < LAYERS; l++) {
            answers.add(x.applied(l));
            answers.add(x.statements(l));
        }
        for (int k = 0; k < PILE_ROOM; k++) {
            answers.add(x.holds(k) ? 1 : 0);
        }
        addDecisions(x, answers);
        addDepths(x, answers);
        addValues(x, answers);
        addRoom(x, answers);
        return answers;
    }

    private static void addDecisions(DecisionLayers x, List<Integer> answers) {
        for (int user = 2; user <= 3; user++) {
            for (int owner = 1; owner <= 2; owner++) {
                answers.add(x.decide(1, user, user == 2 ? 'a' : 'b', 'a', owner));
                answers.add(x.layer());
                for (int l = 0; l < LAYERS; l++) {
                    answers.add(x.applied(l));
                }
            }
        }
    }

    private static void addDepths(DecisionLayers x, List<Integer> answers) {
        for (int k = x.pile(); k > 0; k--) {
            int joined = 0;
            while (joined < 5 && x.join(NOT, 1) != DEEP) {
                joined++;
            }
            answers.add(joined);
            answers.add(x.discard() ? 1 : 0);
        }
    }

    private static void addValues(DecisionLayers x, List<Integer> answers) {
        for (int key = 0; key < KEYS; key++) {
            for (long value : new long[] {0, 5, 6}) {
                x.test(0, key, value, 0);
                answers.add(x.holds(0) ? 1 : 0);
                x.discard();
            }
            answers.add(x.forget(key));
        }
    }

    private static void addRoom(DecisionLayers x, List<Integer> answers) {
        for (int l = 0; l < LAYERS; l++) {
            answers.add(x.state(l, 0, STAR, STAR, EVERYBODY));
            answers.add(x.drop(l) ? 1 : 0);
        }
        answers.add(x.join(ALL, 0));
    }

    /** Some of each, and nothing decided yet. */
    private static DecisionLayers busy() {
        DecisionLayers x = new DecisionLayers();
        x.open(0);
        x.state(2, 0, 'a', STAR, EVERYBODY);
        x.test(0, 0, 5, 0);
        x.state(4, CONDITIONAL, STAR, 'a', EVERYBODY);
        x.state(4, OTHER_ACTIONS, 'b', STAR, EVERYBODY);
        x.state(5, 0, STAR, text("$1"), 112);
        x.offer(0, 5);
        x.offer(1, 'a');
        for (int n = 0; n < KEY_ROOM; n++) {
            x.offer(2, n);
        }
        x.test(0, 0, 5, 0);
        x.join(ANY, 0);
        putDeep(x, 5);
        return x;
    }

    private static DecisionLayers decided() {
        DecisionLayers x = busy();
        x.drop(0);
        x.decide(1, 2, 'a', 'a', 1);
        x.open(0);
        return x;
    }

    private static DecisionLayers full() {
        DecisionLayers x = fullButForThePile();
        for (int k = 0; k < PILE_ROOM - 1; k++) {
            x.test(0, k, k, k);
        }
        putDeep(x, 5);
        return x;
    }

    private static DecisionLayers fullButForThePile() {
        DecisionLayers x = new DecisionLayers();
        for (int l = 0; l < LAYERS; l++) {
            for (int k = 0; k < LAYER_ROOM; k++) {
                x.state(l, k == 5 ? DENY : 0, k == 5 ? 'b' : STAR, k % 2 == 0 ? STAR : 'x', EVERYBODY);
            }
        }
        for (int key = 0; key < KEYS; key++) {
            for (int n = 0; n < KEY_ROOM; n++) {
                x.offer(key, 4 + n % 2);
            }
        }
        x.decide(1, 2, 'a', 'a', 1);
        return x;
    }
}
