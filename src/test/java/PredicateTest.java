import java.util.Arrays;

/** When a predicate is true, false or open. */
@Section("Terms")
public final class PredicateTest {
    private static final String THREE = "On some claims and a clock a predicate is TRUE, FALSE or OPEN.";
    private static final String IS = "IS: OPEN without a claim of its kind, otherwise true if that has its value.";
    private static final String BELOW = "BELOW: OPEN likewise, otherwise true if the claim's value is less.";
    private static final String SINCE = "SINCE: true if the clock is not less.";
    private static final String EVER = "EVER: true.";
    private static final String NOT = "NOT: OPEN of OPEN.";
    private static final String ALL = "ALL: false if one is false, otherwise OPEN if one is.";
    private static final String ANY = "ANY: true if one is true, otherwise OPEN if one is.";

    private enum Truth { TRUE, FALSE, OPEN }

    /** With claim 0 being 5 and no claim of kind 1, these come to true, false and open. */
    private static final int[] YES = Texts.is(0, 5);
    private static final int[] NO = Texts.is(0, 6);
    private static final int[] MAYBE = Texts.is(1, 5);

    public static void main(String[] args) {
        Tests.run(PredicateTest.class);
    }

    private static Truth truth(GrantDesk desk, int ticket) {
        try {
            return desk.redeem(0, ticket, 0, 0) > 0 ? Truth.TRUE : Truth.OPEN;
        } catch (UnsupportedOperationException refused) {
            return Truth.FALSE;
        }
    }

    private static void same(Expect expect, String what, Truth got, Truth due) {
        expect.same(what, got.name(), due.name());
    }

    private static void onClaim(Expect expect, int kind, int value, Truth due, int... predicate) {
        GrantDesk desk = Scenes.ruled(predicate);
        int ticket = Scenes.pushed(desk, 0, 1, kind, value);
        same(expect, Arrays.toString(predicate) + " on claim " + kind + " = " + value, truth(desk, ticket), due);
    }

    private static void due(Expect expect, Truth due, int... predicate) {
        onClaim(expect, 0, 5, due, predicate);
    }

    private static void atClock(Expect expect, int clock, Truth due, int... predicate) {
        GrantDesk desk = Scenes.ruled(predicate);
        desk.tick(clock);
        same(expect, Arrays.toString(predicate) + " at " + clock, truth(desk, desk.ask(1, 0, 1, -1, 0)), due);
    }

    @Sentence(THREE)
    static void withoutAnyClaims(Expect expect) {
        same(expect, "is", truth(Scenes.ruled(Texts.is(0, 0)), 1), Truth.OPEN);
        same(expect, "below", truth(Scenes.ruled(Texts.below(0, 0)), 1), Truth.OPEN);
        same(expect, "ever", truth(Scenes.ruled(Texts.ever()), 1), Truth.TRUE);
        same(expect, "not ever", truth(Scenes.ruled(Texts.not(Texts.ever())), 1), Truth.FALSE);
    }

    @Sentence(THREE)
    static void onClaimsAndClockTogether(Expect expect) {
        int[] both = Texts.all(YES, Texts.since(3));
        for (int clock = 2; clock <= 4; clock++) {
            GrantDesk desk = Scenes.later(Scenes.ruled(both), clock);
            Truth due = clock < 3 ? Truth.FALSE : Truth.TRUE;
            same(expect, "at " + clock, truth(desk, Scenes.pushed(desk, 0, 1, 0, 5)), due);
        }
    }

    @Sentence(IS)
    static void isOfEveryKind(Expect expect) {
        for (int kind = 0; kind <= 11; kind++) {
            onClaim(expect, kind, 49, Truth.FALSE, Texts.is(kind, 50));
            onClaim(expect, kind, 50, Truth.TRUE, Texts.is(kind, 50));
            onClaim(expect, kind, 51, Truth.FALSE, Texts.is(kind, 50));
        }
    }

    @Sentence(IS)
    static void isOpenOnClaimsOfOtherKinds(Expect expect) {
        for (int kind = 0; kind <= 11; kind++) {
            onClaim(expect, (kind + 1) % 12, 50, Truth.OPEN, Texts.is(kind, 50));
            onClaim(expect, (kind + 11) % 12, 50, Truth.OPEN, Texts.is(kind, 50));
        }
    }

    @Sentence(IS)
    static void isOfTheLeastAndTheGreatestValue(Expect expect) {
        onClaim(expect, 3, 0, Truth.TRUE, Texts.is(3, 0));
        onClaim(expect, 3, 1, Truth.FALSE, Texts.is(3, 0));
        onClaim(expect, 3, 98, Truth.FALSE, Texts.is(3, 99));
        onClaim(expect, 3, 99, Truth.TRUE, Texts.is(3, 99));
        onClaim(expect, 4, 0, Truth.OPEN, Texts.is(3, 0));
    }

    @Sentence(BELOW)
    static void belowOfEveryKind(Expect expect) {
        for (int kind = 0; kind <= 11; kind++) {
            onClaim(expect, kind, 49, Truth.TRUE, Texts.below(kind, 50));
            onClaim(expect, kind, 50, Truth.FALSE, Texts.below(kind, 50));
            onClaim(expect, kind, 51, Truth.FALSE, Texts.below(kind, 50));
        }
    }

    @Sentence(BELOW)
    static void belowOpenOnClaimsOfOtherKinds(Expect expect) {
        for (int kind = 0; kind <= 11; kind++) {
            onClaim(expect, (kind + 1) % 12, 49, Truth.OPEN, Texts.below(kind, 50));
            onClaim(expect, (kind + 11) % 12, 49, Truth.OPEN, Texts.below(kind, 50));
        }
    }

    @Sentence(BELOW)
    static void belowTheLeastAndTheGreatestValue(Expect expect) {
        onClaim(expect, 3, 0, Truth.FALSE, Texts.below(3, 0));
        onClaim(expect, 4, 0, Truth.OPEN, Texts.below(3, 0));
        onClaim(expect, 3, 0, Truth.TRUE, Texts.below(3, 1));
        onClaim(expect, 3, 98, Truth.TRUE, Texts.below(3, 99));
        onClaim(expect, 3, 99, Truth.FALSE, Texts.below(3, 99));
    }

    @Sentence(SINCE)
    static void sinceJustBeforeAndAtIt(Expect expect) {
        atClock(expect, 20, Truth.FALSE, Texts.since(21));
        atClock(expect, 21, Truth.TRUE, Texts.since(21));
        atClock(expect, 22, Truth.TRUE, Texts.since(21));
    }

    @Sentence(SINCE)
    static void sinceTheLeastAndTheGreatest(Expect expect) {
        atClock(expect, 0, Truth.TRUE, Texts.since(0));
        atClock(expect, 0, Truth.FALSE, Texts.since(1));
        atClock(expect, 98, Truth.FALSE, Texts.since(99));
        atClock(expect, 99, Truth.TRUE, Texts.since(99));
        atClock(expect, 100, Truth.TRUE, Texts.since(99));
    }

    @Sentence(EVER)
    static void everIsTrueAtEveryClock(Expect expect) {
        for (int clock : new int[] {0, 1, 99, 100}) {
            atClock(expect, clock, Truth.TRUE, Texts.ever());
        }
    }

    @Sentence(NOT)
    static void notOfEach(Expect expect) {
        due(expect, Truth.OPEN, Texts.not(MAYBE));
        due(expect, Truth.FALSE, Texts.not(YES));
        due(expect, Truth.TRUE, Texts.not(NO));
        due(expect, Truth.OPEN, Texts.not(Texts.not(MAYBE)));
        due(expect, Truth.TRUE, Texts.not(Texts.not(YES)));
    }

    @Sentence(NOT)
    static void notOverAllEightBytes(Expect expect) {
        due(expect, Truth.FALSE, 3, 3, 3, 3, 3, 3, 3, 7);
        due(expect, Truth.TRUE, 3, 3, 3, 3, 3, 3, 4, 5);
        due(expect, Truth.FALSE, 3, 3, 3, 3, 3, 3, 4, 6);
        due(expect, Truth.OPEN, 3, 3, 3, 3, 3, 3, 12, 5);
    }

    @Sentence(ALL)
    static void allOfEachTwo(Expect expect) {
        due(expect, Truth.TRUE, Texts.all(YES, YES));
        due(expect, Truth.FALSE, Texts.all(YES, NO));
        due(expect, Truth.FALSE, Texts.all(NO, YES));
        due(expect, Truth.FALSE, Texts.all(NO, NO));
        due(expect, Truth.OPEN, Texts.all(YES, MAYBE));
        due(expect, Truth.OPEN, Texts.all(MAYBE, YES));
        due(expect, Truth.OPEN, Texts.all(MAYBE, MAYBE));
        due(expect, Truth.FALSE, Texts.all(NO, MAYBE));
        due(expect, Truth.FALSE, Texts.all(MAYBE, NO));
    }

    @Sentence(ALL)
    static void allOfPredicatesOfEveryLength(Expect expect) {
        int[][] first = {Texts.ever(), YES, Texts.not(NO), Texts.any(Texts.ever(), MAYBE)};
        for (int[] one : first) {
            due(expect, Truth.TRUE, Texts.all(one, YES));
            due(expect, Truth.FALSE, Texts.all(one, NO));
            due(expect, Truth.OPEN, Texts.all(one, MAYBE));
        }
        due(expect, Truth.TRUE, Texts.all(Texts.ever(), Texts.all(Texts.ever(), YES)));
        due(expect, Truth.FALSE, Texts.all(Texts.all(YES, Texts.ever()), NO));
    }

    @Sentence(ANY)
    static void anyOfEachTwo(Expect expect) {
        due(expect, Truth.TRUE, Texts.any(YES, YES));
        due(expect, Truth.TRUE, Texts.any(YES, NO));
        due(expect, Truth.TRUE, Texts.any(NO, YES));
        due(expect, Truth.FALSE, Texts.any(NO, NO));
        due(expect, Truth.TRUE, Texts.any(YES, MAYBE));
        due(expect, Truth.TRUE, Texts.any(MAYBE, YES));
        due(expect, Truth.OPEN, Texts.any(MAYBE, MAYBE));
        due(expect, Truth.OPEN, Texts.any(NO, MAYBE));
        due(expect, Truth.OPEN, Texts.any(MAYBE, NO));
    }

    @Sentence(ANY)
    static void anyOfPredicatesOfEveryLength(Expect expect) {
        int[][] first = {Texts.not(Texts.ever()), NO, Texts.not(YES), Texts.since(99)};
        for (int[] one : first) {
            due(expect, Truth.TRUE, Texts.any(one, YES));
            due(expect, Truth.FALSE, Texts.any(one, NO));
            due(expect, Truth.OPEN, Texts.any(one, MAYBE));
        }
        due(expect, Truth.OPEN, Texts.any(Texts.not(YES), Texts.not(MAYBE)));
        due(expect, Truth.TRUE, Texts.any(Texts.all(YES, NO), Texts.ever()));
    }
}
