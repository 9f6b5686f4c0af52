/** What a token has and when it is good. */
@Section("Terms")
public final class TokenLifeTest {
    private static final String TOKEN = "A TOKEN has a number (1, 2, ..), a client, for each resource scopes (perhaps"
            + " none), and ends 30 ticks after it was given.";
    private static final String GOOD = "It is GOOD until it is dropped or its end comes.";

    public static void main(String[] args) {
        Tests.run(TokenLifeTest.class);
    }

    @Sentence(TOKEN)
    static void numbersInTheOrderOfGiving(Expect expect) {
        GrantDesk desk = Scenes.crowded(60, Texts.ever());
        for (int token = 1; token <= 60; token++) {
            expect.equal("number", desk.redeem(token % 3, 61 - token, 0, 0), token);
            desk.drop(token % 3, token);
        }
        for (int token = 1; token <= 60; token++) {
            expect.equal("its client", desk.token(token, 1), token % 3);
        }
    }

    @Sentence(TOKEN)
    static void scopesOfEachResourceOrNone(Expect expect) {
        GrantDesk desk = Scenes.generous();
        int token = desk.redeem(0, desk.ask(1, 2, 9, -1, 0), 0, 0);
        expect.equal("of one", desk.introspect(1, token, 2), 9);
        expect.equal("none", desk.introspect(1, token, 0), 0);
        expect.equal("none of another owner's", desk.introspect(2, token, 1), 0);
        int late = desk.register(1, 15);
        expect.equal("none of a later one", desk.introspect(1, token, late), 0);
    }

    @Sentence(TOKEN)
    static void endsThirtyTicksAfterItWasGiven(Expect expect) {
        GrantDesk desk = Scenes.later(Scenes.generous(), 17);
        int token = desk.redeem(0, desk.ask(1, 2, 9, -1, 0), 0, 0);
        desk.tick(5);
        expect.equal("given at 17", desk.token(token, 2), 47);
        int upgraded = desk.redeem(0, desk.ask(1, 2, 9, -1, 0), 0, token);
        expect.equal("given at 22", desk.token(upgraded, 2), 52);
    }

    @Sentence(GOOD)
    static void untilItIsDropped(Expect expect) {
        GrantDesk desk = Scenes.served();
        desk.drop(0, 1);
        expect.equal("token", desk.token(1, 0), 0);
        expect.equal("introspect", desk.introspect(1, 1, 0), 0);
        expect.equal("drop", desk.drop(0, 1), false);
        expect.refused("redeem", Expect.ARGUMENT, () -> desk.redeem(0, 3, 4, 1));
    }

    @Sentence(GOOD)
    static void untilItsEndComes(Expect expect) {
        GrantDesk desk = Scenes.served();
        for (int clock = 0; clock <= 32; clock++) {
            expect.equal("token at " + clock, desk.token(1, 0), clock < 30 ? 1 : 0);
            expect.equal("introspect at " + clock, desk.introspect(1, 1, 0), clock < 30 ? 4 : 0);
            desk.tick(1);
        }
    }

    @Sentence(GOOD)
    static void whateverElseComes(Expect expect) {
        GrantDesk desk = Scenes.served();
        desk.redeem(0, 3, 4, 1);
        desk.remove(1, 0);
        desk.revoke(1);
        expect.equal("still good", desk.token(1, 0), 1);
    }
}
