/** What its texts are stands in TextTest, what they come to in PredicateTest. */
@Section("Promise 7: rule")
public final class RuleTest {
    private static final String RULED = "A new rule, behind the others of the resource: how many it has now.";
    private static final String NO_SUCH = "NoSuchElementException: as for remove.";
    private static final String ARGUMENT = "IllegalArgumentException: scopes not 1 .. 15, or text is none.";
    private static final String STATE = "IllegalStateException: it has 4 rules.";

    public static void main(String[] args) {
        Tests.run(RuleTest.class);
    }

    /** As served, with four rules on resource 0. */
    private static GrantDesk four() {
        GrantDesk desk = Scenes.served();
        desk.rule(1, 0, 2, Texts.text(Texts.is(1, 1)));
        desk.rule(1, 0, 2, Texts.text(Texts.is(2, 1)));
        return desk;
    }

    @Sentence(RULED)
    static void answersHowManyItHasNow(Expect expect) {
        GrantDesk desk = Scenes.owners();
        for (int count = 1; count <= 4; count++) {
            expect.equal("rule", desk.rule(1, 0, 1, Texts.EVER), count);
            expect.equal("counted", desk.resource(0, 2), count);
        }
        expect.equal("another resource has none", desk.resource(2, 2), 0);
        expect.equal("and its first", desk.rule(1, 2, 1, Texts.EVER), 1);
    }

    @Sentence(RULED)
    static void theOthersStayBeforeIt(Expect expect) {
        GrantDesk desk = Scenes.owners();
        for (int count = 1; count <= 4; count++) {
            desk.rule(1, 2, 1 << (count - 1), Texts.EVER);
            int token = desk.redeem(0, desk.ask(1, 2, 15, -1, 0), 0, 0);
            expect.equal("granted by all", desk.introspect(1, token, 2), (1 << count) - 1);
        }
    }

    @Sentence(RULED)
    static void scopesThatTheResourceLacks(Expect expect) {
        GrantDesk desk = Scenes.owners();
        expect.equal("rule", desk.rule(2, 1, 12, Texts.EVER), 1);
        desk.rescope(2, 1, 7);
        expect.equal("granted once it has them", desk.redeem(0, desk.ask(2, 1, 7, -1, 0), 0, 0), 1);
        expect.equal("just these", desk.introspect(2, 1, 1), 4);
    }

    @Sentence(NO_SUCH)
    static void keyless(Expect expect) {
        expect.keyless((desk, key) -> desk.rule(key, 0, 1, Texts.EVER));
    }

    @Sentence(NO_SUCH)
    static void noResourceOfTheOwner(Expect expect) {
        expect.notOfTheOwner((desk, r) -> desk.rule(1, r, 1, Texts.EVER));
        expect.refusedWhole("by another owner", Expect.NO_SUCH, Scenes::served, desk -> desk.rule(2, 0, 1, Texts.EVER));
    }

    @Sentence(ARGUMENT)
    static void leastAndGreatestScopes(Expect expect) {
        GrantDesk desk = Scenes.owners();
        expect.equal("the least", desk.rule(1, 2, 1, Texts.EVER), 1);
        expect.equal("the greatest", desk.rule(1, 2, 15, Texts.EVER), 2);
    }

    @Sentence(ARGUMENT)
    static void scopesOutside(Expect expect) {
        expect.refusedFor(Edges.outside(1, 15), "scopes", Expect.ARGUMENT, Scenes::served,
                (desk, scopes) -> desk.rule(1, 0, scopes, Texts.EVER));
    }

    @Sentence(ARGUMENT)
    static void textIsNone(Expect expect) {
        for (long text : new long[] {0, 1, 8, 15, 263, -1, Long.MIN_VALUE, Long.MAX_VALUE}) {
            expect.refusedWhole("text " + text, Expect.ARGUMENT, Scenes::served, desk -> desk.rule(1, 0, 1, text));
        }
    }

    @Sentence(STATE)
    static void thereIsNoFifth(Expect expect) {
        expect.refusedWhole("the fifth", Expect.STATE, RuleTest::four, desk -> desk.rule(1, 0, 1, Texts.EVER));
        expect.equal("another resource has room", four().rule(1, 2, 1, Texts.EVER), 1);
    }

    @Sentence(STATE)
    static void roomAgainWhenTheyAreCleared(Expect expect) {
        GrantDesk desk = four();
        desk.clear(1, 0);
        for (int count = 1; count <= 4; count++) {
            expect.equal("rule", desk.rule(1, 0, 1, Texts.EVER), count);
        }
        expect.refused("the fifth", Expect.STATE, () -> desk.rule(1, 0, 1, Texts.EVER));
    }

    @Sentence(NO_SUCH + " " + ARGUMENT + " " + STATE)
    static void theFirstThatIsDue(Expect expect) {
        new Mixture(expect, (desk, a) -> desk.rule(a[0], a[1], a[2], a[3]), 1, 0, 1, (int) Texts.EVER)
                .lists(Expect.NO_SUCH).wrong(0, 0, 3, 4).wrong(1, -1, 1, 3, 4)
                .lists(Expect.ARGUMENT).wrong(2, 0, 16).wrong(3, (int) Texts.NO_TEXT, 1)
                .lists(Expect.STATE)
                .in(Scenes::served)
                .inRefusing(RuleTest::four, Expect.STATE);
    }
}
