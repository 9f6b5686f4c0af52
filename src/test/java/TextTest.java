import java.util.ArrayList;
import java.util.Arrays;
import java.util.HashSet;
import java.util.List;
import java.util.Set;

/** Which longs are a predicate's text and which are none. */
@Section("Terms")
public final class TextTest {
    private static final String RULE = "A RULE has scopes and a PREDICATE, which is written as a TEXT: the bytes of a"
            + " long, the lowest first, 8 of them.";
    private static final String SIGN = "A byte is a SIGN: its lowest three bits are what it is, and the five above"
            + " them, its REST, 0 .. 31:";
    private static final String ALL = "1 ALL (rest 0), with two predicates behind it;";
    private static final String ANY = "2 ANY (rest 0), with two;";
    private static final String NOT = "3 NOT (rest 0), with one;";
    private static final String IS = "4 IS, its rest being a kind, with one byte behind it, a value;";
    private static final String BELOW = "5 BELOW, the same;";
    private static final String SINCE = "6 SINCE (rest 0), with one byte behind it, 0 .. 99;";
    private static final String EVER = "7 EVER (rest 0).";
    private static final String BEHIND = "Behind the predicate all bytes are 0.";
    private static final String ELSE = "Everything else is no text.";

    public static void main(String[] args) {
        Tests.run(TextTest.class);
    }

    /** A text is a rule's; what is none is refused, and no rule is there. */
    private static void due(Expect expect, boolean due, long text) {
        GrantDesk desk = new GrantDesk();
        desk.key(0);
        desk.register(1, 1);
        String what = "text " + Long.toHexString(text);
        if (due) {
            expect.equal(what, desk.rule(1, 0, 1, text), 1);
        } else {
            expect.refused(what, Expect.ARGUMENT, () -> desk.rule(1, 0, 1, text));
            expect.equal(what, desk.resource(0, 2), 0);
        }
    }

    private static void text(Expect expect, int... bytes) {
        due(expect, true, Texts.text(bytes));
    }

    private static void none(Expect expect, int... bytes) {
        due(expect, false, Texts.text(bytes));
    }

    /** With rest 0 the sign is one, whatever stands behind it; with any other rest it is none. */
    private static void onlyRestZero(Expect expect, int sign, int... behind) {
        for (int rest = 0; rest <= 31; rest++) {
            int[] bytes = new int[1 + behind.length];
            bytes[0] = sign + 8 * rest;
            System.arraycopy(behind, 0, bytes, 1, behind.length);
            due(expect, rest == 0, Texts.text(bytes));
        }
    }

    /** The bytes behind as many NOTs as leave them the last places. */
    private static int[] atTheEnd(int... bytes) {
        int[] whole = new int[8];
        Arrays.fill(whole, 3);
        System.arraycopy(bytes, 0, whole, 8 - bytes.length, bytes.length);
        return whole;
    }

    @Sentence(RULE)
    static void theLowestByteFirst(Expect expect) {
        due(expect, true, 0x0703L);
        due(expect, false, 0x0307L);
        due(expect, true, 0x070701L);
        due(expect, false, 0x010707L);
        due(expect, false, 0x0700000000000000L);
    }

    @Sentence(RULE)
    static void allEightBytes(Expect expect) {
        due(expect, true, 0x0703030303030303L);
        due(expect, true, 0x0703070107020701L);
        text(expect, atTheEnd(4, 99));
        text(expect, 3, 2, 7, 2, 7, 2, 7, 7);
        text(expect, 1, 1, 4, 5, 5, 6, 6, 7);
        text(expect, 1, 1, 1, 7, 7, 7, 3, 7);
    }

    @Sentence(RULE)
    static void moreThanEightBytes(Expect expect) {
        none(expect, 3, 3, 3, 3, 3, 3, 3, 3);
        none(expect, 1, 1, 1, 1, 7, 7, 7, 7);
        none(expect, 2, 7, 2, 7, 2, 7, 2, 7);
        none(expect, 1, 1, 4, 5, 5, 6, 3, 6);
    }

    @Sentence(SIGN)
    static void whatEachByteIsAlone(Expect expect) {
        for (int sign = 0; sign <= 255; sign++) {
            boolean claim = (sign & 7) == 4 || (sign & 7) == 5;
            boolean due = sign == 7 || sign == 6 || (claim && sign >> 3 <= 11);
            due(expect, due, sign);
        }
    }

    @Sentence(SIGN)
    static void theHighestBitIsOfTheRest(Expect expect) {
        none(expect, 128 + 7);
        none(expect, 128 + 3, 7);
        none(expect, 128 + 4, 7);
        none(expect, 3, 128 + 7);
        due(expect, false, 7 | Long.MIN_VALUE);
        none(expect, 3, 3, 3, 3, 3, 3, 3, 128 + 7);
    }

    @Sentence(ALL)
    static void allHasRestZero(Expect expect) {
        onlyRestZero(expect, 1, 7, 7);
    }

    @Sentence(ALL)
    static void allHasTwoPredicatesBehindIt(Expect expect) {
        none(expect, 1);
        none(expect, 1, 7);
        text(expect, 1, 7, 7);
        none(expect, 1, 7, 7, 7);
        none(expect, 1, 0, 7);
        none(expect, 1, 7, 0, 7);
        text(expect, Texts.all(Texts.is(0, 0), Texts.since(0)));
        text(expect, Texts.all(Texts.all(Texts.ever(), Texts.ever()), Texts.all(Texts.ever(), Texts.ever())));
        none(expect, Texts.all(Texts.ever(), Texts.is(3, 100)));
        none(expect, Texts.all(Texts.is(12, 3), Texts.ever()));
    }

    @Sentence(ALL)
    static void allInTheLastPlaces(Expect expect) {
        text(expect, atTheEnd(1, 7, 7));
        none(expect, atTheEnd(1, 7));
        none(expect, atTheEnd(1));
    }

    @Sentence(ANY)
    static void anyHasRestZero(Expect expect) {
        onlyRestZero(expect, 2, 7, 7);
    }

    @Sentence(ANY)
    static void anyHasTwoPredicatesBehindIt(Expect expect) {
        none(expect, 2);
        none(expect, 2, 7);
        text(expect, 2, 7, 7);
        none(expect, 2, 7, 7, 7);
        none(expect, 2, 0, 7);
        none(expect, 2, 7, 8);
        text(expect, Texts.any(Texts.not(Texts.below(3, 99)), Texts.all(Texts.ever(), Texts.ever())));
        none(expect, Texts.any(Texts.not(Texts.below(12, 99)), Texts.ever()));
    }

    @Sentence(ANY)
    static void anyInTheLastPlaces(Expect expect) {
        text(expect, atTheEnd(2, 7, 7));
        none(expect, atTheEnd(2, 7));
        none(expect, atTheEnd(2));
    }

    @Sentence(NOT)
    static void notHasRestZero(Expect expect) {
        onlyRestZero(expect, 3, 7);
    }

    @Sentence(NOT)
    static void notHasOnePredicateBehindIt(Expect expect) {
        none(expect, 3);
        text(expect, 3, 7);
        none(expect, 3, 7, 7);
        none(expect, 3, 0);
        none(expect, 3, 0, 7);
        text(expect, Texts.not(Texts.not(Texts.is(11, 99))));
        none(expect, Texts.not(Texts.is(11, 100)));
    }

    @Sentence(NOT)
    static void notInTheLastPlace(Expect expect) {
        text(expect, atTheEnd(3, 7));
        none(expect, atTheEnd(3));
    }

    @Sentence(IS)
    static void isHasAKind(Expect expect) {
        for (int rest = 0; rest <= 31; rest++) {
            due(expect, rest <= 11, Texts.text(Texts.is(rest, 7)));
        }
    }

    @Sentence(IS)
    static void isHasAValueBehindIt(Expect expect) {
        for (int value = 0; value <= 255; value++) {
            due(expect, value <= 99, Texts.text(Texts.is(0, value)));
            due(expect, value <= 99, Texts.text(Texts.is(11, value)));
        }
    }

    @Sentence(IS)
    static void isInTheLastPlaces(Expect expect) {
        text(expect, atTheEnd(4, 99));
        none(expect, atTheEnd(4, 100));
        none(expect, atTheEnd(4));
    }

    @Sentence(BELOW)
    static void belowHasAKind(Expect expect) {
        for (int rest = 0; rest <= 31; rest++) {
            due(expect, rest <= 11, Texts.text(Texts.below(rest, 7)));
        }
    }

    @Sentence(BELOW)
    static void belowHasAValueBehindIt(Expect expect) {
        for (int value = 0; value <= 255; value++) {
            due(expect, value <= 99, Texts.text(Texts.below(0, value)));
            due(expect, value <= 99, Texts.text(Texts.below(11, value)));
        }
    }

    @Sentence(BELOW)
    static void belowInTheLastPlaces(Expect expect) {
        text(expect, atTheEnd(5, 99));
        none(expect, atTheEnd(5, 100));
        none(expect, atTheEnd(5));
    }

    @Sentence(SINCE)
    static void sinceHasRestZero(Expect expect) {
        onlyRestZero(expect, 6, 7);
    }

    @Sentence(SINCE)
    static void sinceHasAByteBehindIt(Expect expect) {
        for (int value = 0; value <= 255; value++) {
            due(expect, value <= 99, Texts.text(Texts.since(value)));
        }
    }

    @Sentence(SINCE)
    static void sinceInTheLastPlaces(Expect expect) {
        text(expect, atTheEnd(6, 99));
        none(expect, atTheEnd(6, 100));
        none(expect, atTheEnd(6));
    }

    @Sentence(EVER)
    static void everHasRestZero(Expect expect) {
        onlyRestZero(expect, 7);
    }

    @Sentence(EVER)
    static void everInTheLastPlace(Expect expect) {
        text(expect, atTheEnd(7));
    }

    @Sentence(BEHIND)
    static void anyByteBehindIt(Expect expect) {
        int[][] predicates = {{7}, {6, 1}, {4, 1}, {3, 7}, {1, 7, 7}, {2, 4, 1, 5, 1}, {3, 3, 3, 3, 3, 3, 7}};
        for (int[] predicate : predicates) {
            for (int place = predicate.length; place < 8; place++) {
                for (int stray : new int[] {1, 7, 8, 128, 255}) {
                    int[] bytes = Arrays.copyOf(predicate, 8);
                    bytes[place] = stray;
                    none(expect, bytes);
                }
            }
            text(expect, Arrays.copyOf(predicate, 8));
        }
    }

    @Sentence(ELSE)
    static void leastAndGreatestLongs(Expect expect) {
        for (long text : new long[] {0, -1, 1, Long.MIN_VALUE, Long.MAX_VALUE, Long.MIN_VALUE + 7}) {
            due(expect, false, text);
        }
    }

    @Sentence(ELSE)
    static void signZero(Expect expect) {
        for (int rest = 0; rest <= 31; rest++) {
            none(expect, 8 * rest);
            none(expect, 8 * rest, 7);
            none(expect, 3, 8 * rest);
            none(expect, 1, 7, 8 * rest);
            none(expect, 8 * rest, 7, 7);
        }
    }

    /** What is no predicate is none in either place behind ALL and ANY, and behind NOT. */
    private static void noneBehind(Expect expect, int... noPredicate) {
        none(expect, Texts.all(noPredicate, Texts.ever()));
        none(expect, Texts.all(Texts.ever(), noPredicate));
        none(expect, Texts.any(noPredicate, Texts.ever()));
        none(expect, Texts.any(Texts.ever(), noPredicate));
        none(expect, Texts.not(noPredicate));
    }

    @Sentence(ELSE)
    static void aWrongPredicateBehindASign(Expect expect) {
        for (int rest : new int[] {1, 16, 31}) {
            noneBehind(expect, 1 + 8 * rest, 7, 7);
            noneBehind(expect, 2 + 8 * rest, 7, 7);
            noneBehind(expect, 3 + 8 * rest, 7);
            noneBehind(expect, 6 + 8 * rest, 7);
            noneBehind(expect, 7 + 8 * rest);
            noneBehind(expect, 8 * rest);
        }
        for (int value : new int[] {100, 128, 255}) {
            noneBehind(expect, Texts.is(3, value));
            noneBehind(expect, Texts.below(3, value));
            noneBehind(expect, Texts.since(value));
        }
        for (int kind : new int[] {12, 31}) {
            noneBehind(expect, Texts.is(kind, 3));
            noneBehind(expect, Texts.below(kind, 3));
        }
    }

    /** Every text whose bytes from the fourth on are 0, made sign by sign. */
    private static Set<Long> shortTexts() {
        List<int[]> leaves = new ArrayList<>(List.of(Texts.ever()));
        for (int value = 0; value <= 99; value++) {
            leaves.add(Texts.since(value));
            for (int kind = 0; kind <= 11; kind++) {
                leaves.add(Texts.is(kind, value));
                leaves.add(Texts.below(kind, value));
            }
        }
        Set<Long> texts = new HashSet<>();
        for (int[] leaf : leaves) {
            addWithNots(texts, leaf);
            addWithNots(texts, Texts.all(Texts.ever(), leaf));
            addWithNots(texts, Texts.any(Texts.ever(), leaf));
        }
        return texts;
    }

    private static void addWithNots(Set<Long> texts, int[] predicate) {
        for (int[] with = predicate; Texts.text(with) < 1 << 24; with = Texts.not(with)) {
            texts.add(Texts.text(with));
        }
    }

    @Sentence(ELSE)
    static void everyTwoBytesBeforeSomeThirds(Expect expect) {
        Set<Long> texts = shortTexts();
        for (int third : new int[] {0, 1, 3, 4, 7, 8, 99, 100, 255}) {
            for (int two = 0; two < 1 << 16; two++) {
                long text = (long) third << 16 | two;
                due(expect, texts.contains(text), text);
            }
        }
    }
}
