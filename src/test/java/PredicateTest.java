/** Promises 7 and 11: when a predicate is true, false or open. */
public final class PredicateTest {
    private static final Expect EXPECT = new Expect();
    private static final String TRUE = "true";
    private static final String FALSE = "false";
    private static final String OPEN = "open";

    /** With claim 0 being 5 and no claim of kind 1, these come to true, false and open. */
    private static final int[] YES = Texts.is(0, 5);
    private static final int[] NO = Texts.is(0, 6);
    private static final int[] MAYBE = Texts.is(1, 5);

    public static void main(String[] args) {
        claims();
        clock();
        branches();
        nested();
        EXPECT.end();
    }

    private static String truth(GrantDesk desk, int client, int ticket) {
        try {
            return desk.redeem(client, ticket, 0, 0) > 0 ? TRUE : OPEN;
        } catch (UnsupportedOperationException refused) {
            return FALSE;
        }
    }

    private static void dueOn(int kind, int value, String due, int... predicate) {
        GrantDesk desk = Scenes.ruled(predicate);
        int ticket = Scenes.pushed(desk, 0, 1, kind, value);
        String what = java.util.Arrays.toString(predicate) + " on claim " + kind + " = " + value;
        EXPECT.same(what, truth(desk, 0, ticket), due);
    }

    private static void due(String due, int... predicate) {
        dueOn(0, 5, due, predicate);
    }

    private static void claims() {
        for (int kind = 0; kind < 12; kind++) {
            int another = (kind + 1) % 12;
            dueOn(kind, 50, TRUE, Texts.is(kind, 50));
            dueOn(kind, 49, FALSE, Texts.is(kind, 50));
            dueOn(kind, 51, FALSE, Texts.is(kind, 50));
            dueOn(kind, 49, TRUE, Texts.below(kind, 50));
            dueOn(kind, 50, FALSE, Texts.below(kind, 50));
            dueOn(kind, 51, FALSE, Texts.below(kind, 50));
            dueOn(another, 50, OPEN, Texts.is(kind, 50));
            dueOn(another, 49, OPEN, Texts.below(kind, 50));
        }
        dueOn(3, 0, TRUE, Texts.is(3, 0));
        dueOn(3, 99, TRUE, Texts.is(3, 99));
        dueOn(3, 0, FALSE, Texts.below(3, 0));
        dueOn(4, 0, OPEN, Texts.below(3, 0));
        dueOn(3, 98, TRUE, Texts.below(3, 99));
    }

    private static void clock() {
        due(TRUE, Texts.since(0));
        due(FALSE, Texts.since(1));
        due(TRUE, Texts.ever());
        for (int now = 20; now <= 22; now++) {
            GrantDesk desk = Scenes.ruled(Texts.since(21));
            desk.tick(now);
            EXPECT.same("since 21 at " + now, truth(desk, 0, desk.ask(1, 0, 1, -1, 0)), now < 21 ? FALSE : TRUE);
        }
        GrantDesk desk = Scenes.ruled(Texts.since(99));
        desk.tick(100);
        EXPECT.same("since 99 at 100", truth(desk, 0, desk.ask(1, 0, 1, -1, 0)), TRUE);
    }

    private static void branches() {
        due(FALSE, Texts.not(YES));
        due(TRUE, Texts.not(NO));
        due(OPEN, Texts.not(MAYBE));
        due(TRUE, Texts.all(YES, YES));
        due(FALSE, Texts.all(YES, NO));
        due(FALSE, Texts.all(NO, YES));
        due(FALSE, Texts.all(NO, NO));
        due(OPEN, Texts.all(YES, MAYBE));
        due(OPEN, Texts.all(MAYBE, YES));
        due(OPEN, Texts.all(MAYBE, MAYBE));
        due(FALSE, Texts.all(NO, MAYBE));
        due(FALSE, Texts.all(MAYBE, NO));
        due(TRUE, Texts.any(YES, YES));
        due(TRUE, Texts.any(YES, NO));
        due(TRUE, Texts.any(NO, YES));
        due(FALSE, Texts.any(NO, NO));
        due(TRUE, Texts.any(YES, MAYBE));
        due(TRUE, Texts.any(MAYBE, YES));
        due(OPEN, Texts.any(MAYBE, MAYBE));
        due(OPEN, Texts.any(NO, MAYBE));
        due(OPEN, Texts.any(MAYBE, NO));
    }

    private static void nested() {
        due(TRUE, Texts.all(Texts.any(NO, YES), Texts.ever()));
        due(FALSE, Texts.all(Texts.any(NO, YES), Texts.since(9)));
        due(TRUE, Texts.any(Texts.all(YES, NO), Texts.ever()));
        due(OPEN, Texts.any(Texts.not(YES), Texts.not(MAYBE)));
        due(FALSE, 3, 3, 3, 3, 3, 3, 3, 7);
        due(TRUE, 3, 3, 3, 3, 3, 3, 4, 5);
        due(TRUE, Texts.all(Texts.ever(), Texts.all(Texts.ever(), YES)));
        due(FALSE, Texts.all(Texts.all(YES, Texts.ever()), NO));
        dueOn(7, 7, TRUE, Texts.all(Texts.is(7, 7), Texts.below(7, 8)));
    }
}
