@Section("Promise 12: introspect")
public final class IntrospectTest {
    private static final String SCOPES =
            "The scopes of resource r that a token has, if it is GOOD (only those that the resource has now);";
    private static final String NONE = "0 if it is not, or there is none.";
    private static final String NO_SUCH =
            "NoSuchElementException: KEYLESS, or there is no registered resource r of the key's owner.";

    public static void main(String[] args) {
        Tests.run(IntrospectTest.class);
    }

    @Sentence(SCOPES)
    static void theScopesThatTheTokenHas(Expect expect) {
        GrantDesk desk = Scenes.generous();
        int token = desk.redeem(2, desk.ask(1, 0, 5, 2, 10), 0, 0);
        expect.equal("of the first", desk.introspect(1, token, 0), 5);
        expect.equal("of the other", desk.introspect(1, token, 2), 10);
        expect.equal("of one that it has none of", desk.introspect(2, token, 1), 0);
        int second = desk.key(0);
        expect.equal("by another key of the owner", desk.introspect(second, token, 0), 5);
    }

    @Sentence(SCOPES)
    static void onlyThoseThatTheResourceHasNow(Expect expect) {
        GrantDesk desk = Scenes.generous();
        int token = desk.redeem(0, desk.ask(1, 2, 6, -1, 0), 0, 0);
        for (int scopes = 1; scopes <= 15; scopes++) {
            desk.rescope(1, 2, scopes);
            expect.equal("with scopes " + scopes, desk.introspect(1, token, 2), 6 & scopes);
        }
    }

    @Sentence(SCOPES)
    static void changesNothing(Expect expect) {
        expect.unchanged("introspect", Scenes::served, desk -> desk.introspect(1, 1, 0));
    }

    @Sentence(NONE)
    static void justBeforeAndAtTheTokensEnd(Expect expect) {
        expect.equal("just before", Scenes.later(Scenes.served(), 29).introspect(1, 1, 0), 4);
        expect.equal("at it", Scenes.later(Scenes.served(), 30).introspect(1, 1, 0), 0);
        expect.equal("after it", Scenes.later(Scenes.served(), 31).introspect(1, 1, 0), 0);
    }

    @Sentence(NONE)
    static void aDroppedToken(Expect expect) {
        GrantDesk desk = Scenes.served();
        desk.drop(0, 1);
        expect.equal("dropped", desk.introspect(1, 1, 0), 0);
    }

    @Sentence(NONE)
    static void thereIsNoSuchToken(Expect expect) {
        for (int token : Edges.and(Edges.outside(1, 1), 60, 61)) {
            expect.equal("token " + token, Scenes.served().introspect(1, token, 0), 0);
        }
        expect.equal("before there is a token", Scenes.owners().introspect(1, 1, 0), 0);
    }

    @Sentence(NO_SUCH)
    static void keyless(Expect expect) {
        expect.keyless((desk, key) -> desk.introspect(key, 1, 0));
    }

    @Sentence(NO_SUCH)
    static void noResourceOfTheOwner(Expect expect) {
        expect.notOfTheOwner((desk, r) -> desk.introspect(1, 1, r));
        expect.refusedWhole("by another owner", Expect.NO_SUCH, Scenes::served, desk -> desk.introspect(2, 1, 0));
    }

    @Sentence(NO_SUCH)
    static void evenIfThereIsNoToken(Expect expect) {
        new Mixture(expect, (desk, a) -> desk.introspect(a[0], a[1], a[2]), 1, 9, 0)
                .lists(Expect.NO_SUCH).wrong(0, 0, 3, 4).wrong(2, -1, 1, 3, 4)
                .in(Scenes::served);
    }
}
