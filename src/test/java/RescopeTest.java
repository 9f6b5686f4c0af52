@Section("Promise 5: rescope")
public final class RescopeTest {
    private static final String RESCOPED = "The resource has other scopes from now on: those that it had.";
    private static final String NO_SUCH = "NoSuchElementException: as for remove.";
    private static final String ARGUMENT = "IllegalArgumentException: scopes not 1 .. 15.";
    private static final String STAYS = "(Rules, tickets and tokens stay as they are.)";

    public static void main(String[] args) {
        Tests.run(RescopeTest.class);
    }

    @Sentence(RESCOPED)
    static void answersThoseThatItHad(Expect expect) {
        GrantDesk desk = Scenes.owners();
        expect.equal("at first", desk.rescope(1, 0, 8), 7);
        expect.equal("has now", desk.resource(0, 1), 8);
        expect.equal("then", desk.rescope(1, 0, 8), 8);
        expect.equal("the others stay", desk.resource(2, 1), 15);
        expect.equal("the owner stays", desk.resource(0, 0), 0);
    }

    @Sentence(RESCOPED)
    static void fromNowOnTheseAreAsked(Expect expect) {
        GrantDesk desk = Scenes.owners();
        desk.rescope(1, 0, 8);
        expect.refused("no more", Expect.ARGUMENT, () -> desk.ask(1, 0, 1, -1, 0));
        expect.equal("from now on", desk.ask(1, 0, 8, -1, 0), 1);
    }

    @Sentence(NO_SUCH)
    static void keyless(Expect expect) {
        expect.keyless((desk, key) -> desk.rescope(key, 0, 1));
    }

    @Sentence(NO_SUCH)
    static void noResourceOfTheOwner(Expect expect) {
        expect.notOfTheOwner((desk, r) -> desk.rescope(1, r, 1));
        expect.refusedWhole("by another owner", Expect.NO_SUCH, Scenes::served, desk -> desk.rescope(2, 0, 1));
    }

    @Sentence(ARGUMENT)
    static void leastAndGreatestScopes(Expect expect) {
        GrantDesk desk = Scenes.owners();
        desk.rescope(1, 0, 1);
        expect.equal("the least", desk.rescope(1, 0, 15), 1);
        expect.equal("the greatest", desk.resource(0, 1), 15);
    }

    @Sentence(ARGUMENT)
    static void scopesOutside(Expect expect) {
        expect.refusedFor(Edges.outside(1, 15), "scopes", Expect.ARGUMENT, Scenes::served,
                (desk, scopes) -> desk.rescope(1, 0, scopes));
    }

    @Sentence(NO_SUCH + " " + ARGUMENT)
    static void theFirstThatIsDue(Expect expect) {
        new Mixture(expect, (desk, a) -> desk.rescope(a[0], a[1], a[2]), 1, 0, 1)
                .lists(Expect.NO_SUCH).wrong(0, 0, 3, 4).wrong(1, -1, 1, 3, 4)
                .lists(Expect.ARGUMENT).wrong(2, 0, 16)
                .in(Scenes::served);
    }

    @Sentence(STAYS)
    static void rulesStay(Expect expect) {
        GrantDesk desk = Scenes.served();
        desk.rescope(1, 0, 8);
        expect.equal("their number", desk.resource(0, 2), 2);
        desk.rescope(1, 0, 7);
        expect.equal("what they grant", desk.redeem(0, 1, 4, 0), 2);
        expect.equal("as before", desk.introspect(1, 2, 0), 4);
    }

    @Sentence(STAYS)
    static void ticketsStay(Expect expect) {
        GrantDesk desk = Scenes.bound();
        desk.rescope(1, 0, 8);
        expect.equal("live", desk.ticket(4, 0), 1);
        expect.equal("the claim", desk.ticket(4, 2), 4);
        expect.equal("grants a scope that the resource lacks now", desk.redeem(1, 4, 0, 0), 2);
        desk.rescope(1, 0, 15);
        expect.equal("of the ticket", desk.introspect(1, 2, 0), 1);
    }

    @Sentence(STAYS)
    static void tokensStay(Expect expect) {
        GrantDesk desk = Scenes.served();
        desk.rescope(1, 0, 8);
        expect.equal("good", desk.token(1, 0), 1);
        expect.equal("the resource is counted", desk.token(1, 3), 1);
        desk.rescope(1, 0, 15);
        expect.equal("its scopes", desk.introspect(1, 1, 0), 4);
    }
}
