/** Promise 7: rule; what its texts are stands in TextTest, what they come to in PredicateTest. */
public final class RuleTest {
    private static final long EVER = 7;
    private static final long NO_TEXT = 0;

    public static void main(String[] args) {
        Expect expect = new Expect();
        ordinary(expect);
        wrong(expect);
        full(expect);
        expect.end();
    }

    private static void ordinary(Expect expect) {
        GrantDesk desk = Scenes.owners();
        for (int count = 1; count <= 4; count++) {
            expect.equal("rule " + count, desk.rule(1, 0, 1 << (count - 1), EVER), count);
            expect.equal("counted", desk.resource(0, 2), count);
        }
        expect.equal("the others have none", desk.resource(2, 2), 0);
        expect.equal("scopes that the resource lacks may be ruled", desk.rule(2, 1, 15, EVER), 1);
        desk.ask(1, 0, 7, -1, 0);
        expect.equal("all four rules count", desk.redeem(0, 1, 0, 0), 1);
        expect.equal("with their scopes", desk.introspect(1, 1, 0), 7);
    }

    private static void wrong(Expect expect) {
        for (int scopes : new int[] {0, 16, -1, Integer.MIN_VALUE, Integer.MAX_VALUE}) {
            expect.refusedWhole("scopes " + scopes, Expect.ARGUMENT, Scenes::served, d -> d.rule(1, 0, scopes, EVER));
            expect.refusedWhole("another's first", Expect.NO_SUCH, Scenes::served, d -> d.rule(1, 1, scopes, NO_TEXT));
        }
        expect.refusedWhole("no text", Expect.ARGUMENT, Scenes::served, d -> d.rule(1, 0, 1, NO_TEXT));
        expect.refusedWhole("keyless first", Expect.NO_SUCH, Scenes::served, d -> d.rule(3, 0, 0, NO_TEXT));
        for (int r : new int[] {-1, 1, 3, 4, 12, Integer.MIN_VALUE, Integer.MAX_VALUE}) {
            expect.refusedWhole("resource " + r, Expect.NO_SUCH, Scenes::served, d -> d.rule(1, r, 1, EVER));
        }
    }

    private static GrantDesk four() {
        GrantDesk desk = Scenes.served();
        desk.rule(1, 0, 2, Texts.text(Texts.is(1, 1)));
        desk.rule(1, 0, 2, Texts.text(Texts.is(2, 1)));
        return desk;
    }

    private static void full(Expect expect) {
        expect.refusedWhole("the 5th", Expect.STATE, RuleTest::four, d -> d.rule(1, 0, 1, EVER));
        expect.refusedWhole("scopes first", Expect.ARGUMENT, RuleTest::four, d -> d.rule(1, 0, 0, EVER));
        expect.refusedWhole("text first", Expect.ARGUMENT, RuleTest::four, d -> d.rule(1, 0, 1, NO_TEXT));
        expect.refusedWhole("key first", Expect.NO_SUCH, RuleTest::four, d -> d.rule(2, 0, 1, EVER));
        GrantDesk desk = four();
        desk.clear(1, 0);
        expect.equal("room again", desk.rule(1, 0, 1, EVER), 1);
    }
}
