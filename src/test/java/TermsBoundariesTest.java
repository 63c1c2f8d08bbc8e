/** For each sentence of the document's terms that names a boundary case, a test of its own. */
public final class TermsBoundariesTest extends Checks {
    private static final long LEAST = Long.MIN_VALUE, GREATEST = Long.MAX_VALUE;

    public static void main(String[] args) {
        the512thCall();
        textEnds();
        textEndsElsewhere();
        characterCodes();
        star();
        questionMark();
        dollarAndSign();
        dollarAndKey();
        otherCharacters();
        wholeText();
        dollarAndNoneOfThose();
        keyWithoutOneValue();
        loosely();
        looselyFromAnywhere();
        values();
        depth();
        depthWithoutParts();
        greatestDepth();
        emptyParts();
        pileRoom();
        sameNumber();
        sameCharacters();
        patternOfTest();
        less();
        atMost();
        prefix();
        prefixNumber();
        sameZero();
        negated();
        someOrEach();
        noValues();
        absent();
        layerRoom();
        presence();
        turnedRound();
        conditionOrNone();
        who();
        whoInLowerLayers();
        lowestDenial();
        organisation();
        veryUser();
        refusedByMay();
        refusedByPermits();
        boundaryAndSession();
        allowed();
        end();
    }

    private static void the512thCall() {
        says("An object is used for at most 512 calls after it has been made");
        DecisionLayers x = new DecisionLayers();
        int calls = 0;
        for (int l = 0; l < LAYERS; l++) {
            for (int k = 0; k < LAYER_ROOM; k++) {
                putDeep(x, 5);
                x.state(l, CONDITIONAL, text("*?*?*?*"), text("*?*?*?*"), EVERYBODY);
                calls += 6;
            }
        }
        for (; calls < 510; calls++) {
            due("call " + (calls + 1), x.decide(0, 0, text("abcdefgh"), text("abcdefgh"), 0), ALLOWED);
        }
        due("call 511", x.applied(5), 63);
        due("call 512", x.decide(0, 0, text("abcdefgh"), text("ab"), 0), REFUSED);
    }

    private static void textEnds() {
        says("its characters are its bytes, from the lowest one on, up to the first byte that is 0 (eight at most)");
        DecisionLayers x = new DecisionLayers();
        String letters = "abcdefgh", marks = "????????";
        for (int n = 0; n <= 8; n++) {
            long text = text(letters.substring(0, n));
            for (int m = 0; m <= 8; m++) {
                due(n + " characters, " + m + " asked for", x.matches(text(marks.substring(0, m)), text, false), n == m);
                due(n + " characters in " + m, x.matches(text(letters.substring(0, m)), text, false), n == m);
            }
        }
        for (int n = 0; n <= 6; n++) {
            long text = text(letters.substring(0, n)), more = -1L << 8 * (n + 1);
            due("bytes behind the 0 of a text", x.matches(text, text | more, false), true);
            due("bytes behind the 0 of a pattern", x.matches(text | more, text, false), true);
        }
        due("a 0 at first", x.matches(0, -1L << 8, false), true);
        due("a 0 at first of the pattern", x.matches(STAR << 8, text("a"), false), false);
        due("the lowest byte is first", x.matches(text("a*"), 'a' | (long) 'b' << 8, false), true);
        due("the highest byte is eighth", x.matches(text("*h"), text("abcdefg") | (long) 'h' << 56, false), true);
    }

    private static void textEndsElsewhere() {
        says("A TEXT is a long");
        long a = text("a"), more = a | -1L << 16;
        DecisionLayers x = new DecisionLayers();
        x.state(4, 0, more, more, EVERYBODY);
        due("the action and the thing end at a 0", x.decide(0, 0, a | 1L << 63, a | 1L << 16, 0), ALLOWED);
        due("the action ends behind it", x.decide(0, 0, text("aa"), a, 0), REFUSED);
        due("the thing ends behind it", x.decide(0, 0, a, text("aa"), 0), REFUSED);
        due("an empty action", x.decide(0, 0, 0, a, 0), REFUSED);
        due("the text of a value ends at a 0", withValues(0, more).matches(text("$0"), a, false), true);
        due("the text of a value goes on to it", withValues(0, text("ab")).matches(text("$0"), a, false), false);
        due("a value of eight characters", withValues(0, text("abcdefgh")).matches(text("$0"), text("abcdefgh"), false), true);
    }

    private static void characterCodes() {
        says("The characters have the codes 1 .. 255.");
        DecisionLayers x = new DecisionLayers();
        for (int code = 1; code <= 255; code++) {
            due("one of code " + code, x.matches('?', code, false), true);
            long last = text("abcdefg") | (long) code << 56;
            due("code " + code + " at the end of eight", x.matches(text("abcdefg?"), last, false), true);
        }
        due("code 0 is none", x.matches('?', 0, false), false);
        due("code 0 is none at the end", x.matches(text("abcdefg?"), text("abcdefg"), false), false);
    }

    private static void star() {
        says("42 (a star) means any row of characters, also none");
        DecisionLayers x = new DecisionLayers();
        String letters = "abcdefgh";
        for (int n = 0; n <= 8; n++) {
            due("a row of " + n, x.matches(STAR, text(letters.substring(0, n)), false), true);
            due("behind a, a row of " + (n - 1), x.matches(text("a*"), text(letters.substring(0, n)), false), n > 0);
            due("before h, a row of " + (7 - n), x.matches(text("*h"), text(letters.substring(n)), false), n < 8);
            due("eight stars, a row of " + n, x.matches(text("********"), text(letters.substring(0, n)), false), true);
        }
        due("none in the middle", x.matches(text("a*b"), text("ab"), false), true);
        due("six in the middle", x.matches(text("a*h"), text(letters), false), true);
        due("none three times", x.matches(text("*a*b*"), text("ab"), false), true);
        due("the shortest row is not enough", x.matches(text("*ab"), text("abaab"), false), true);
        due("any characters", x.matches(STAR, -1L, false), true);
        due("code 41 is none", x.matches(')', text("ab"), false), false);
        due("code 43 is none", x.matches('+', text("ab"), false), false);
    }

    private static void questionMark() {
        says("63 (a question mark) any one character");
        DecisionLayers x = new DecisionLayers();
        due("none", x.matches('?', 0, false), false);
        due("one", x.matches('?', 'a', false), true);
        due("two", x.matches('?', text("ab"), false), false);
        due("none behind a", x.matches(text("a?"), 'a', false), false);
        due("none before a", x.matches(text("?a"), 'a', false), false);
        due("none beside a star", x.matches(text("*?"), 0, false), false);
        due("one beside a star", x.matches(text("*?"), 'a', false), true);
        due("the least code", x.matches('?', 1, false), true);
        due("the greatest code", x.matches('?', 255, false), true);
        due("code 62 is none", x.matches('>', 'a', false), false);
        due("code 64 is none", x.matches('@', 'a', false), false);
    }

    private static void dollarAndSign() {
        says("that character itself, if it is 36, 42 or 63");
        DecisionLayers x = new DecisionLayers();
        for (int sign : new int[] {36, 42, 63}) {
            long pattern = 36 | sign << 8;
            due("$ and " + sign, x.matches(pattern, sign, false), true);
            due("$ and " + sign + ", another", x.matches(pattern, 'a', false), false);
            due("$ and " + sign + ", none", x.matches(pattern, 0, false), false);
            due("$ and " + sign + ", twice", x.matches(pattern, sign | sign << 8, false), false);
            due("$ and " + sign + ", the dollar too", x.matches(pattern, pattern, false), false);
            long last = text("abcdef") | pattern << 48;
            due("$ and " + sign + " at the end of eight", x.matches(last, text("abcdef") | (long) sign << 48, false), true);
            for (int beside = sign - 1; beside <= sign + 1; beside += 2) {
                due("$ and " + beside, x.matches(36 | beside << 8, beside, false), false);
            }
        }
        due("two dollars and a star", x.matches(text("$$*"), text("$ab"), false), true);
        due("three dollars and a star", x.matches(text("$$$*"), text("$*"), false), true);
        due("three dollars and a star are no row", x.matches(text("$$$*"), text("$ab"), false), false);
        due("two dollars and a digit", x.matches(text("$$0"), text("$0"), false), true);
    }

    private static void dollarAndKey() {
        says("the text of the VALUE of key k, if it is 48 + k with k = 0 .. 7");
        DecisionLayers x = new DecisionLayers();
        for (int key = 0; key < KEYS; key++) {
            x.offer(key, text("v" + key));
        }
        for (int key = 0; key < KEYS; key++) {
            for (int other = 0; other < KEYS; other++) {
                due("key " + key + ", value of " + other, x.matches(text("$" + key), text("v" + other), false), key == other);
            }
            due("the digit itself", x.matches(text("$" + key), text("" + key), false), false);
        }
        due("code 47", x.matches(text("$/*"), text("v0"), false), false);
        due("code 56", x.matches(text("$8*"), text("v7"), false), false);
        due("without a dollar", x.matches('0', text("v0"), false), false);
        due("an empty value", withValues(7, 0).matches(text("a$7b"), text("ab"), false), true);
        due("an empty value, an empty text", withValues(7, 0).matches(text("$7"), 0, false), true);
        DecisionLayers y = withValues(0, text("*?$1"));
        due("what the value has means itself", y.matches(text("$0"), text("*?$1"), false), true);
        due("a star from the value", y.matches(text("$0"), text("ab?$1"), false), false);
        due("a question mark from the value", y.matches(text("$0"), text("*a$1"), false), false);
        DecisionLayers z = withValues(0, text("abcdefgh"));
        due("eight and one more", z.matches(text("$0?"), text("abcdefgh"), false), false);
        due("eight and a star", z.matches(text("*$0*"), text("abcdefgh"), false), true);
        due("eight four times", z.matches(text("$0$0$0$0"), text("abcdefgh"), false), false);
    }

    private static void otherCharacters() {
        says("any other character means itself");
        DecisionLayers x = new DecisionLayers();
        for (int code = 1; code <= 255; code++) {
            if (code != 36 && code != 42 && code != 63) {
                due("code " + code, x.matches(code, code, false), true);
                due("code " + code + ", the next one", x.matches(code, code % 255 + 1, false), false);
            }
        }
    }

    private static void wholeText() {
        says("A pattern MATCHES a text when the whole text can be read so.");
        DecisionLayers x = new DecisionLayers();
        due("nothing in nothing", x.matches(0, 0, false), true);
        due("nothing in something", x.matches(0, 'a', false), false);
        due("something in nothing", x.matches('a', 0, false), false);
        due("only its beginning", x.matches(text("ab"), text("abc"), false), false);
        due("only its end", x.matches(text("bc"), text("abc"), false), false);
        due("only its middle", x.matches(text("b"), text("abc"), false), false);
        due("the text ends first", x.matches(text("abc"), text("ab"), false), false);
        due("seven of eight", x.matches(text("abcdefg"), text("abcdefgh"), false), false);
        due("eight of eight", x.matches(text("abcdefgh"), text("abcdefgh"), false), true);
        due("the last of eight differs", x.matches(text("abcdefgh"), text("abcdefgi"), false), false);
        due("the end behind a star", x.matches(text("*b"), text("abc"), false), false);
    }

    private static void dollarAndNoneOfThose() {
        says("It matches nothing when a dollar has none of those characters behind it");
        for (int behind = 0; behind <= 255; behind++) {
            if (behind == 36 || behind == 42 || behind == 63 || behind >= 48 && behind <= 55) {
                continue;
            }
            DecisionLayers x = new DecisionLayers();
            for (int key = 0; key < KEYS; key++) {
                x.offer(key, 0);
            }
            long faulty = 36 | (long) behind << 8;
            for (long text : new long[] {0, 36, behind, faulty, text("a"), text("ab")}) {
                due("$ and " + behind, x.matches(faulty, text, false), false);
                due("* behind $ and " + behind, x.matches(faulty | STAR << 16, text, false), false);
                due("* before $ and " + behind, x.matches(STAR | faulty << 8, text, true), false);
            }
        }
        DecisionLayers x = new DecisionLayers();
        due("a dollar as the eighth", x.matches(text("abcdefg$"), text("abcdefg"), false), false);
        due("a dollar as the eighth, itself", x.matches(text("abcdefg$"), text("abcdefg$"), false), false);
        due("stars and a dollar", x.matches(text("*******$"), text("a$"), false), false);
        due("a third dollar", x.matches(text("$$$"), text("$"), false), false);
        due("a digit behind a 0 byte", withValues(0, 0).matches('$' | (long) '0' << 16, 0, false), false);
    }

    private static void keyWithoutOneValue() {
        says("or when it names a key that does not have exactly one value");
        for (int key = 0; key < KEYS; key++) {
            DecisionLayers x = new DecisionLayers();
            for (int count = 0; count <= KEY_ROOM; count++) {
                due(count + " values", x.matches(text("$" + key), text("a"), false), count == 1);
                due(count + " values, beside a star", x.matches(text("*$" + key + "*"), text("xay"), false), count == 1);
                due(count + " values, loosely", x.matches(text("$" + key), text("A"), true), count == 1);
                x.offer(key, text("a"));
            }
            x.forget(key);
            due("forgotten", x.matches(text("$" + key), text("a"), false), false);
            due("forgotten, and nothing", x.matches(text("$" + key), 0, false), false);
            x.offer(key, text("b"));
            due("one again", x.matches(text("$" + key), text("b"), false), true);
        }
        DecisionLayers y = withValues(0, 0, 0);
        due("two empty values", y.matches(text("$0"), 0, false), false);
        y.offer(1, text("a"));
        due("one of two keys without one value", y.matches(text("$1$0"), text("a"), false), false);
        due("the other one alone", y.matches(text("$1"), text("a"), false), true);
    }

    private static void loosely() {
        says("LOOSELY, the letters 65 .. 90 and 97 .. 122 that differ by 32 are alike");
        for (int a = 1; a <= 255; a++) {
            DecisionLayers x = new DecisionLayers();
            boolean letter = a >= 65 && a <= 90 || a >= 97 && a <= 122;
            int other = a ^ 32;
            if (a != 36 && a != 42 && a != 63 && other != 0) {
                due(a + " like " + other, x.matches(a, other, true), letter);
                due(a + " like itself", x.matches(a, a, true), true);
                due(a + " is " + other, x.matches(a, other, false), false);
            }
        }
        DecisionLayers y = new DecisionLayers();
        due("64 and 96", y.matches(64, 96, true), false);
        due("91 and 123", y.matches(91, 123, true), false);
        due("96 and 64", y.matches(96, 64, true), false);
        due("123 and 91", y.matches(123, 91, true), false);
        due("48 and 16", y.matches(48, 16, true), false);
        due("193 and 225", y.matches(193, 225, true), false);
        due("65 and 193", y.matches(65, 193, true), false);
        due("other letters", y.matches(65, 98, true), false);
        due("97 and 129", y.matches(97, 129, true), false);
        due("65 and 33", y.matches(65, 33, true), false);
    }

    private static void looselyFromAnywhere() {
        says("wherever they stand or come from");
        DecisionLayers x = withValues(0, text("aZ"));
        due("in the pattern", x.matches(text("AB"), text("ab"), true), true);
        due("in the text", x.matches(text("ab"), text("AB"), true), true);
        due("as the first and the eighth", x.matches(text("Abcdefgh"), text("abcdefgH"), true), true);
        due("behind a star", x.matches(text("*Yz"), text("xyZ"), true), true);
        due("from a value", x.matches(text("$0"), text("Az"), true), true);
        due("from a value, not loosely", x.matches(text("$0"), text("Az"), false), false);
        DecisionLayers y = withValues(0, text("aZ"));
        y.state(4, 0, text("$0"), text("*"), EVERYBODY);
        y.state(4, 0, text("*"), text("$0"), EVERYBODY);
        y.decide(0, 0, text("Az"), text("Az"), 0);
        due("the action's are alike, the thing's are not", y.applied(4), 1);
    }

    private static void values() {
        says("KEYS 0 .. 7 have a list of at most 4 VALUES each (longs)");
        DecisionLayers x = new DecisionLayers();
        long[] most = {LEAST, GREATEST, -1, 0};
        for (int key = 0; key < KEYS; key++) {
            for (int i = 0; i < KEY_ROOM; i++) {
                due("value " + (i + 1) + " of key " + key, x.offer(key, most[i] ^ key), i + 1);
            }
            due("a fifth", x.offer(key, 77), FULL);
        }
        for (int key = 0; key < KEYS; key++) {
            for (long value : most) {
                x.test(0, key, value ^ key, 0);
                due("key " + key + " has " + (value ^ key), x.holds(0), true);
                x.discard();
            }
            x.test(0, key, 77, 0);
            due("key " + key + " has not the fifth", x.holds(0), false);
            x.discard();
        }
    }

    private static void depth() {
        says("Its DEPTH is 1 for a test, else 1 more than the greatest depth of its parts");
        for (int depth = 1; depth <= 5; depth++) {
            DecisionLayers x = new DecisionLayers();
            putDeep(x, depth);
            due("NOTs on depth " + depth, notsUntilDeep(x), 5 - depth);
        }
        for (int place = 0; place < 3; place++) {
            for (int kind = ALL; kind <= ANY; kind++) {
                DecisionLayers x = new DecisionLayers();
                for (int i = 0; i < 3; i++) {
                    putDeep(x, i == place ? 3 : 1);
                }
                x.join(kind, 3);
                due("NOTs on depth 4, the deepest part being " + place, notsUntilDeep(x), 1);
            }
        }
        DecisionLayers y = new DecisionLayers();
        putDeep(y, 5);
        putDeep(y, 1);
        y.join(ALL, 1);
        due("what lies below counts not", notsUntilDeep(y), 3);
    }

    private static void depthWithoutParts() {
        says("(1 when it has none)");
        for (int kind = ALL; kind <= ANY; kind++) {
            DecisionLayers x = new DecisionLayers();
            x.join(kind, 0);
            due("NOTs on kind " + kind + " of none", notsUntilDeep(x), 4);
            x.discard();
            x.join(kind, 0);
            x.join(kind, 1);
            due("NOTs on kind " + kind + " of that", notsUntilDeep(x), 3);
        }
    }

    private static int notsUntilDeep(DecisionLayers x) {
        int nots = 0;
        while (nots < 9 && x.join(NOT, 1) != DEEP) {
            nots++;
        }
        return nots;
    }

    private static void greatestDepth() {
        says("at most 5");
        for (int kind = ALL; kind <= NOT; kind++) {
            DecisionLayers x = new DecisionLayers();
            putDeep(x, 4);
            due("to depth 5 by " + kind, x.join(kind, 1), 1);
            due("to depth 6 by " + kind, x.join(kind, 1), DEEP);
            due("it holds as before", x.holds(0), kind == NOT);
        }
        DecisionLayers y = new DecisionLayers();
        for (int i = 0; i < PILE_ROOM; i++) {
            putDeep(y, i == 0 ? 5 : 1);
        }
        due("a deep one under seven", y.join(ANY, 8), DEEP);
        due("the seven", y.join(ANY, 7), 2);
    }

    private static void emptyParts() {
        says("ALL holds when all of its parts hold (with no parts, always), ANY when one of them does (with no parts, never)");
        DecisionLayers x = new DecisionLayers();
        x.join(ALL, 0);
        x.join(ANY, 0);
        due("ALL of none", x.holds(0), true);
        due("ANY of none", x.holds(1), false);
        for (int n = 1; n <= PILE_ROOM; n++) {
            for (int odd = -1; odd < n; odd++) {
                due("ALL of " + n + ", failing one " + odd, joined(ALL, n, odd, true), odd == -1);
                due("ANY of " + n + ", holding one " + odd, joined(ANY, n, odd, false), odd != -1);
            }
        }
        says("NOT when its part does not");
        due("NOT of what holds", joined(NOT, 1, -1, true), false);
        due("NOT of what does not", joined(NOT, 1, -1, false), true);
    }

    private static boolean joined(int kind, int n, int odd, boolean others) {
        DecisionLayers x = new DecisionLayers();
        for (int i = 0; i < n; i++) {
            put(x, i == odd ? !others : others);
        }
        x.join(kind, n);
        return x.holds(0);
    }

    private static void pileRoom() {
        says("Conditions are made on a PILE, which has at most 8.");
        DecisionLayers x = new DecisionLayers();
        for (int n = 1; n <= 8; n++) {
            due("condition " + n, n % 2 == 0 ? x.test(7, 0, 1, 0) : x.join(ALL, 0), n);
        }
        due("a ninth test", x.test(7, 0, 1, 0), FULL);
        due("a ninth of no parts", x.join(ALL, 0), FULL);
        due("still eight", x.pile(), 8);
        for (int k = 0; k < 8; k++) {
            due("number " + k, x.holds(k), true);
        }
        due("number 8", x.holds(8), false);
    }

    private static void sameNumber() {
        says("0 whether v = t");
        long[] numbers = {LEAST, LEAST + 1, -1, 0, 1, 1L << 32, GREATEST - 1, GREATEST};
        for (long v : numbers) {
            for (long t : numbers) {
                due(v + " = " + t, yes(0, v, t), v == t);
            }
        }
        due("the same text behind a 0", yes(0, 97, 97 | 1L << 16), false);
    }

    private static void sameCharacters() {
        says("1 whether the texts v and t have the same characters");
        due("none and none", yes(1, 0, 0), true);
        due("none and none, with bytes behind the 0", yes(1, -1L << 8, 1L << 63), true);
        due("none and one", yes(1, 0, 'a'), false);
        due("one and none", yes(1, 'a', 0), false);
        due("bytes behind the 0", yes(1, text("ab") | -1L << 24, text("ab")), true);
        due("seven and eight", yes(1, text("abcdefg"), text("abcdefgh")), false);
        due("eight and seven", yes(1, text("abcdefgh"), text("abcdefg")), false);
        due("eight", yes(1, text("abcdefgh"), text("abcdefgh")), true);
        due("the eighth differs", yes(1, text("abcdefgh"), text("abcdefg\u00e8")), false);
        due("the first differs", yes(1, text("bb"), text("ab")), false);
        due("not in another order", yes(1, text("ab"), text("ba")), false);
        due("not loosely", yes(1, text("a"), text("A")), false);
        due("not as a pattern", yes(1, text("a"), text("?")), false);
        due("the greatest code", yes(1, 255, 255), true);
    }

    private static void patternOfTest() {
        says("2 whether the pattern t matches the text v (not loosely)");
        due("a row", yes(2, text("abcdefgh"), STAR), true);
        due("none", yes(2, 0, STAR), true);
        due("none, and one asked for", yes(2, 0, '?'), false);
        due("nothing and nothing", yes(2, 0, 0), true);
        due("not loosely", yes(2, 'a', 'A'), false);
        due("v is no pattern", yes(2, STAR, 'a'), false);
        due("its own key's value", yes(2, text("*x"), text("$3")), true);
        due("a key without values", yes(2, 0, text("$4")), false);
        due("a dollar with nothing behind it", yes(2, '$', '$'), false);
        DecisionLayers x = withValues(3, text("a"), text("a"));
        x.test(2, 3, text("$3"), 0);
        due("its own key's two values", x.holds(0), false);
    }

    private static void less() {
        says("3 whether v < t");
        due("equal", yes(3, 5, 5), false);
        due("one less", yes(3, 4, 5), true);
        due("one more", yes(3, 6, 5), false);
        due("the least and the greatest", yes(3, LEAST, GREATEST), true);
        due("the greatest and the least", yes(3, GREATEST, LEAST), false);
        due("-1 and 0", yes(3, -1, 0), true);
        due("0 and -1", yes(3, 0, -1), false);
        due("2^32 and 1", yes(3, 1L << 32, 1), false);
        due("the least and itself", yes(3, LEAST, LEAST), false);
    }

    private static void atMost() {
        says("4 whether v <= t");
        due("equal", yes(4, 5, 5), true);
        due("one less", yes(4, 4, 5), true);
        due("one more", yes(4, 6, 5), false);
        due("the least and the greatest", yes(4, LEAST, GREATEST), true);
        due("the greatest and the least", yes(4, GREATEST, LEAST), false);
        due("the greatest and itself", yes(4, GREATEST, GREATEST), true);
        due("the least and itself", yes(4, LEAST, LEAST), true);
        due("0 and -1", yes(4, 0, -1), false);
    }

    private static void prefix() {
        says("5 whether the highest p bits of the lowest 32 bits of v are those of the lowest 32 bits of t");
        for (int p = 0; p <= 32; p++) {
            long t = (long) p << 32 | 0xA5A5A5A5L;
            due("the same, p " + p, yes(5, 0xA5A5A5A5L, t), true);
            for (int bit = 0; bit < 32; bit++) {
                due("bit " + bit + " differs, p " + p, yes(5, 0xA5A5A5A5L ^ 1L << bit, t), bit < 32 - p);
            }
            due("the higher bits of v, p " + p, yes(5, 0xA5A5A5A5L | -1L << 32, t), true);
        }
        due("no bits are the same bits", yes(5, 0xFFFFFFFFL, 0), true);
    }

    private static void prefixNumber() {
        says("with p = the number in bits 32 .. 37 of t, but 32 if that is more");
        for (int p = 32; p <= 63; p++) {
            due("p " + p + ", the same", yes(5, 6, (long) p << 32 | 6), true);
            due("p " + p + ", the lowest bit", yes(5, 7, (long) p << 32 | 6), false);
            due("p " + p + ", the highest bit", yes(5, 6 | 1L << 31, (long) p << 32 | 6), false);
        }
        for (int bit = 38; bit <= 63; bit++) {
            due("bit " + bit + " is not of p, which is 0", yes(5, -1, 1L << bit), true);
            due("bit " + bit + " is not of p, which is 31", yes(5, 1, 1L << bit | 31L << 32), true);
        }
        due("bit 31 is not of p", yes(5, 1L << 31 | 1, 1L << 31), true);
    }

    private static void sameZero() {
        says("6 whether v is 0 exactly when t is");
        due("both", yes(6, 0, 0), true);
        for (long number : new long[] {LEAST, -1, 1, 1L << 8, 1L << 32, GREATEST}) {
            due("only v, t being " + number, yes(6, 0, number), false);
            due("only t, v being " + number, yes(6, number, 0), false);
            due("neither, v being " + number, yes(6, number, 1), true);
            due("neither, t being " + number, yes(6, 1, number), true);
        }
    }

    private static void negated() {
        says("A value SUITS when the answer is yes, or with NEGATED when it is no.");
        long[][] yesAndNo = {{5, 6}, {5, 6}, {5, 6}, {4, 5}, {5, 6}, {5, -1L << 31}, {5, 0}};
        for (int op = 0; op < 7; op++) {
            long t = op == 5 ? 5L | 1L << 32 : 5;
            for (int marks = 0; marks < 8; marks++) {
                boolean turned = (marks & NEGATED) != 0;
                due("op " + op + ", yes, marks " + marks, holds(op, t, marks, yesAndNo[op][0]), !turned);
                due("op " + op + ", no, marks " + marks, holds(op, t, marks, yesAndNo[op][1]), turned);
            }
        }
        due("a pattern that matches nothing", holds(2, '$', NEGATED, '$'), true);
    }

    private static void someOrEach() {
        says("when the key has values: with EACH when all suit, without it when one does");
        for (int count = 1; count <= KEY_ROOM; count++) {
            for (int suiting = 0; suiting < 1 << count; suiting++) {
                long[] values = new long[count];
                for (int i = 0; i < count; i++) {
                    values[i] = suiting >> i & 1;
                }
                boolean one = suiting != 0, all = suiting == (1 << count) - 1;
                due(count + " values, suiting " + suiting, holds(0, 1, 0, values), one);
                due(count + " values, suiting " + suiting + ", SPARING", holds(0, 1, SPARING, values), one);
                due(count + " values, suiting " + suiting + ", EACH", holds(0, 1, EACH, values), all);
                due(count + " values, suiting " + suiting + ", SPARING, EACH", holds(0, 1, SPARING + EACH, values), all);
                due(count + " values, suiting " + suiting + ", NEGATED", holds(0, 0, NEGATED, values), one);
                due(count + " values, suiting " + suiting + ", NEGATED, EACH", holds(0, 0, NEGATED + EACH, values), all);
            }
        }
    }

    private static void noValues() {
        says("when it has none: if one of the marks is set, whichever");
        for (int op = 0; op < 7; op++) {
            for (int marks = 0; marks < 8; marks++) {
                due("op " + op + ", marks " + marks, holds(op, 0, marks), marks != 0);
                due("op " + op + ", marks " + marks + ", t -1", holds(op, -1, marks), marks != 0);
                DecisionLayers x = withValues(3, 9);
                x.test(op, 3, 0, marks);
                x.forget(3);
                due("op " + op + ", marks " + marks + ", forgotten", x.holds(0), marks != 0);
                DecisionLayers y = withValues(2, 0);
                y.offer(4, 0);
                y.test(op, 3, 0, marks);
                due("op " + op + ", marks " + marks + ", other keys have some", y.holds(0), marks != 0);
            }
        }
    }

    private static void absent() {
        says("Op 7 asks for no value: the test holds when the key has no values and t is not 0, or has some and t is 0");
        for (long t : new long[] {LEAST, -1, 0, 1, 1L << 32, GREATEST}) {
            for (int count = 0; count <= KEY_ROOM; count++) {
                boolean due = count == 0 ? t != 0 : t == 0;
                due("t " + t + ", values " + count, holds(7, t, 0, new long[count]), due);
            }
        }
        says("with NEGATED just when it would not without it; the other marks mean nothing");
        for (int marks = 0; marks < 8; marks++) {
            boolean turned = (marks & NEGATED) != 0;
            due("none, t 1, marks " + marks, holds(7, 1, marks), !turned);
            due("none, t 0, marks " + marks, holds(7, 0, marks), turned);
            due("some, t 1, marks " + marks, holds(7, 1, marks, 0, 1), turned);
            due("some, t 0, marks " + marks, holds(7, 0, marks, 0, 1), !turned);
        }
    }

    private static boolean yes(int op, long v, long t) {
        return holds(op, t, 0, v);
    }

    private static boolean holds(int op, long t, int marks, long... values) {
        DecisionLayers x = withValues(3, values);
        x.test(op, 3, t, marks);
        return x.holds(0);
    }

    private static void layerRoom() {
        says("numbered from 0 in each, at most 6");
        DecisionLayers x = new DecisionLayers();
        for (int k = 0; k < LAYER_ROOM; k++) {
            for (int l = 0; l < LAYERS; l++) {
                due("statement " + k + " of layer " + l, x.state(l, 0, k % 2 == 0 ? STAR : 'x', STAR, EVERYBODY), k);
            }
        }
        for (int l = 0; l < LAYERS; l++) {
            due("a seventh of layer " + l, x.state(l, 0, STAR, STAR, EVERYBODY), FULL);
            due("still six in layer " + l, x.statements(l), 6);
        }
        x.decide(0, 0, 'a', 'a', 0);
        for (int l = 0; l < LAYERS; l++) {
            due("the numbers in layer " + l, x.applied(l), 1 + 4 + 16);
        }
    }

    private static void presence() {
        says("A layer is PRESENT from its first statement, or from open, on until it is dropped.");
        for (int l = 0; l < LAYERS; l++) {
            DecisionLayers x = new DecisionLayers();
            due("at first", x.statements(l), -1);
            x.state(l, 0, 'x', 'x', EVERYBODY);
            due("from its first statement on", x.statements(l), 1);
            x.state(l, 0, 'x', 'x', EVERYBODY);
            due("with another one", x.statements(l), 2);
            x.drop(l);
            due("dropped", x.statements(l), -1);
            x.open(l);
            due("from open on", x.statements(l), 0);
            x.decide(0, 0, 'a', 'a', 0);
            due("after a decision", x.statements(l), 0);
            x.drop(l);
            due("dropped again", x.statements(l), -1);
        }
    }

    private static void turnedRound() {
        says("its first pattern matches the action loosely, or does not, with the mark");
        due("matches", applies(0, 'a', STAR), true);
        due("matches loosely", applies(0, 'A', STAR), true);
        due("does not", applies(0, 'b', STAR), false);
        due("matches, with the mark", applies(OTHER_ACTIONS, 'a', STAR), false);
        due("matches loosely, with the mark", applies(OTHER_ACTIONS, 'A', STAR), false);
        due("does not, with the mark", applies(OTHER_ACTIONS, 'b', STAR), true);
        due("matches nothing", applies(0, '$', STAR), false);
        due("matches nothing, with the mark", applies(OTHER_ACTIONS, '$', STAR), true);
        due("the other mark", applies(OTHER_THINGS, 'a', STAR), false);
        says("its second one matches the thing (not loosely), or does not, with the mark");
        due("matches", applies(0, STAR, 'a'), true);
        due("would match loosely", applies(0, STAR, 'A'), false);
        due("does not", applies(0, STAR, 'b'), false);
        due("matches, with the mark", applies(OTHER_THINGS, STAR, 'a'), false);
        due("would match loosely, with the mark", applies(OTHER_THINGS, STAR, 'A'), true);
        due("does not, with the mark", applies(OTHER_THINGS, STAR, 'b'), true);
        due("matches nothing", applies(0, STAR, '$'), false);
        due("matches nothing, with the mark", applies(OTHER_THINGS, STAR, '$'), true);
        due("the other mark", applies(OTHER_ACTIONS, STAR, 'a'), false);
        due("neither matches, with both marks", applies(OTHER_ACTIONS + OTHER_THINGS, 'b', 'b'), true);
        due("one matches, with both marks", applies(OTHER_ACTIONS + OTHER_THINGS, 'b', 'a'), false);
    }

    /** Whether a statement with these patterns applies when the action is a and the thing is a. */
    private static boolean applies(int how, long actions, long things) {
        DecisionLayers x = new DecisionLayers();
        x.state(2, how, actions, things, EVERYBODY);
        x.decide(0, 0, 'a', 'a', 0);
        return x.applied(2) == 1;
    }

    private static void conditionOrNone() {
        says("its condition, if it has one, holds");
        for (int holding = 0; holding <= 1; holding++) {
            DecisionLayers x = new DecisionLayers();
            put(x, false);
            x.state(4, 0, STAR, STAR, EVERYBODY);
            put(x, holding == 1);
            x.state(4, CONDITIONAL, STAR, STAR, EVERYBODY);
            x.decide(0, 0, 0, 0, 0);
            due("one without, one with", x.applied(4), 1 + 2 * holding);
        }
        DecisionLayers y = new DecisionLayers();
        put(y, false);
        y.state(4, CONDITIONAL, STAR, STAR, EVERYBODY);
        y.drop(4);
        y.state(4, 0, STAR, STAR, EVERYBODY);
        due("a dropped statement's condition", y.decide(0, 0, 0, 0, 0), ALLOWED);
    }

    private static void who() {
        says("WHO is -1 (everybody), an account 0 .. 9 (all its users), or 100 + 10 * a + u (user u of account a, both 0 .. 9)");
        for (int who = -300; who <= 500; who++) {
            boolean known = who >= -1 && who <= 9 || who >= 100 && who <= 199;
            DecisionLayers x = new DecisionLayers();
            due("who " + who, x.state(5, 0, STAR, STAR, who), known ? 0 : BAD);
            if (known) {
                whoMeans(x, who);
            }
        }
        for (int who : outside(-1, 199)) {
            due("who " + who, new DecisionLayers().state(5, 0, STAR, STAR, who), BAD);
        }
    }

    private static void whoMeans(DecisionLayers x, int who) {
        for (int account = 0; account <= 9; account++) {
            for (int user = 0; user <= 9; user++) {
                boolean meant = who == -1 || who == account || who == 100 + 10 * account + user;
                x.decide(account, user, 0, 0, 0);
                due("who " + who + " means user " + user + " of " + account, x.applied(5), meant ? 1 : 0);
            }
        }
    }

    private static void whoInLowerLayers() {
        says("in the layers 0 to 4 it is -1");
        for (int l = 0; l <= 4; l++) {
            for (int who : new int[] {-2, 0, 1, 9, 10, 99, 100, 112, 199, 200, Integer.MIN_VALUE, Integer.MAX_VALUE}) {
                due("layer " + l + ", who " + who, new DecisionLayers().state(l, 0, STAR, STAR, who), BAD);
            }
            due("layer " + l + ", who -1", new DecisionLayers().state(l, 0, STAR, STAR, -1), 0);
        }
    }

    private static void lowestDenial() {
        says("DENIED: in a layer a denying statement applies (the lowest such layer).");
        for (int lowest = 0; lowest < LAYERS; lowest++) {
            for (int highest = lowest; highest < LAYERS; highest++) {
                DecisionLayers x = allAllowing();
                deny(x, highest);
                deny(x, lowest);
                decided("layers " + lowest + " and " + highest + " deny", x, 1, DENIED, lowest);
            }
            DecisionLayers y = new DecisionLayers();
            deny(y, lowest);
            y.open(0);
            y.open(1);
            y.state(5, 0, STAR, STAR, 112);
            decided("before all refusals, and the very user", y, 1, DENIED, lowest);
            DecisionLayers z = allAllowing();
            z.state(lowest, DENY, 'x', STAR, EVERYBODY);
            decided("one that does not apply", z, 1, ALLOWED, 4);
            z.drop(lowest);
            deny(z, lowest);
            decided("the only one in its layer", z, 1, DENIED, lowest);
        }
    }

    private static void organisation() {
        says("REFUSED: layer 0 is present and does not allow it (0); likewise layer 1 (1).");
        DecisionLayers x = new DecisionLayers();
        allow(x, 4);
        x.state(5, 0, STAR, STAR, 112);
        decided("neither is present", x, 1, ALLOWED, 5);
        x.open(1);
        decided("layer 1 is, without statements", x, 1, REFUSED, 1);
        x.open(0);
        decided("both are", x, 1, REFUSED, 0);
        x.state(0, 0, 'x', STAR, EVERYBODY);
        decided("layer 0 allows something else", x, 1, REFUSED, 0);
        x.state(0, DENY, 'x', STAR, EVERYBODY);
        decided("layer 0 denies something else", x, 1, REFUSED, 0);
        allow(x, 0);
        decided("layer 0 allows it", x, 1, REFUSED, 1);
        allow(x, 1);
        decided("both allow it", x, 1, ALLOWED, 5);
        x.drop(1);
        x.open(1);
        decided("layer 1 was dropped and opened", x, 1, REFUSED, 1);
        x.drop(1);
        decided("layer 1 was dropped", x, 1, ALLOWED, 5);
    }

    private static void veryUser() {
        says("ALLOWED: the owner is the caller's account, and in layer 5 an allowing statement applies whose WHO is the very user (5).");
        for (int who : new int[] {112, 111, 113, 102, 122, 121, 1, -1, 199}) {
            DecisionLayers x = new DecisionLayers();
            x.open(2);
            x.open(3);
            x.state(5, 0, STAR, STAR, who);
            if (who == 112) {
                decided("the very user, before the layers 2 to 4", x, 1, ALLOWED, 5);
            } else {
                decided("who " + who, x, 1, REFUSED, who == 1 || who == -1 ? 2 : 4);
            }
            decided("who " + who + ", another's thing", x, 2, REFUSED, 4);
        }
        DecisionLayers y = new DecisionLayers();
        y.open(2);
        y.state(5, 0, 'x', STAR, 112);
        y.state(5, 0, STAR, STAR, 1);
        decided("the very user's does not apply", y, 1, REFUSED, 2);
        y.state(5, DENY, 'x', STAR, 112);
        decided("the very user's denies something else", y, 1, REFUSED, 2);
        DecisionLayers z = new DecisionLayers();
        z.state(5, 0, STAR, STAR, 100);
        z.open(3);
        due("user 0 of account 0", z.decide(0, 0, 0, 0, 0), ALLOWED);
        z.state(5, 0, STAR, STAR, 199);
        due("user 9 of account 9", z.decide(9, 9, 0, 0, 9), ALLOWED);
        due("user 9 of account 9, another's thing", z.decide(9, 9, 0, 0, 8), REFUSED);
        due("layer", z.layer(), 4);
        allow(z, 4);
        decided("layer 4 decides not before", z, 1, REFUSED, 3);
        z.state(5, 0, STAR, STAR, 112);
        decided("layer 5 decides", z, 1, ALLOWED, 5);
    }

    private static void refusedByMay() {
        says("REFUSED: layer 4 does not allow it, and either the owner is another account or layer 5 does not allow it (4)");
        for (int present = 0; present <= 1; present++) {
            DecisionLayers x = new DecisionLayers();
            if (present == 1) {
                x.open(2);
                x.open(3);
                x.open(4);
                x.open(5);
            }
            decided("neither allows, one's own", x, 1, REFUSED, 4);
            decided("neither allows, another's", x, 2, REFUSED, 4);
            allow(x, 5);
            decided("layer 5 allows, another's", x, 2, REFUSED, 4);
            if (present == 1) {
                decided("layer 5 allows, one's own", x, 1, REFUSED, 2);
            } else {
                decided("layer 5 allows, one's own", x, 1, ALLOWED, 5);
            }
        }
    }

    private static void refusedByPermits() {
        says("the owner is another account, and layer 5 does not allow it (5)");
        DecisionLayers x = new DecisionLayers();
        allow(x, 4);
        decided("layer 5 is not present, another's", x, 2, REFUSED, 5);
        decided("layer 5 is not present, one's own", x, 1, ALLOWED, 4);
        x.open(5);
        x.open(2);
        x.open(3);
        decided("layer 5 is empty, before 2 and 3", x, 2, REFUSED, 5);
        decided("layer 5 is empty, one's own", x, 1, REFUSED, 2);
        x.state(5, 0, STAR, STAR, 2);
        decided("layer 5 allows the owner's users", x, 2, REFUSED, 5);
        x.state(5, 0, STAR, STAR, 112);
        decided("layer 5 allows the caller", x, 2, REFUSED, 2);
        for (int owner = 0; owner <= 9; owner++) {
            DecisionLayers y = new DecisionLayers();
            allow(y, 4);
            for (int account = 0; account <= 9; account++) {
                int due = account == owner ? ALLOWED : REFUSED;
                due("account " + account + ", owner " + owner, y.decide(account, 0, 0, 0, owner), due);
                due("its layer", y.layer(), account == owner ? 4 : 5);
            }
        }
    }

    private static void boundaryAndSession() {
        says("layer 2 is present and does not allow it (2); likewise layer 3 (3)");
        for (int owner = 1; owner <= 2; owner++) {
            DecisionLayers x = new DecisionLayers();
            allow(x, 4);
            allow(x, 5);
            decided("neither is present", x, owner, ALLOWED, 4);
            x.open(3);
            decided("layer 3 is, without statements", x, owner, REFUSED, 3);
            x.open(2);
            decided("both are", x, owner, REFUSED, 2);
            x.state(2, 0, 'x', STAR, EVERYBODY);
            decided("layer 2 allows something else", x, owner, REFUSED, 2);
            allow(x, 2);
            decided("layer 2 allows it", x, owner, REFUSED, 3);
            allow(x, 3);
            decided("both allow it", x, owner, ALLOWED, 4);
            x.drop(2);
            decided("layer 2 was dropped", x, owner, ALLOWED, 4);
        }
    }

    private static void allowed() {
        says("ALLOWED: (4 if layer 4 allows it, else 5)");
        DecisionLayers x = allAllowing();
        decided("both allow, one's own", x, 1, ALLOWED, 4);
        decided("both allow, another's", x, 2, ALLOWED, 4);
        x.drop(4);
        decided("layer 5 alone, one's own", x, 1, ALLOWED, 5);
        x.open(4);
        decided("layer 5 alone, layer 4 being empty", x, 1, ALLOWED, 5);
        x.drop(5);
        allow(x, 4);
        decided("layer 4 alone, one's own", x, 1, ALLOWED, 4);
        due("the numbers", DecisionLayers.ALLOWED * 100 + DecisionLayers.REFUSED * 10 + DecisionLayers.DENIED, 99);
    }

    private static DecisionLayers allAllowing() {
        DecisionLayers x = new DecisionLayers();
        for (int l = 0; l < LAYERS; l++) {
            allow(x, l);
        }
        return x;
    }

    /** User 2 of account 1 asks. */
    private static void decided(String what, DecisionLayers x, int owner, int answer, int layer) {
        due(what, x.decide(1, 2, text("read"), text("d"), owner), answer);
        due(what + ": the layer", x.layer(), layer);
    }
}
