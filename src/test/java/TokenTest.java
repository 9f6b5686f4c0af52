@Section("Promise 17: token")
public final class TokenTest {
    private static final String GOOD = "Of a token: what = 0 1 if it is GOOD, otherwise 0;";
    private static final String CLIENT = "1 its client;";
    private static final String END = "2 its end;";
    private static final String RESOURCES = "3 how many resources it has scopes of.";
    private static final String AS_GIVEN =
            "(As it was given: what became of them, or of it, does not matter for 1 to 3.)";
    private static final String NONE = "-1 when there is none, or what is not 0 .. 3.";

    public static void main(String[] args) {
        Tests.run(TokenTest.class);
    }

    private static void due(Expect expect, GrantDesk desk, int token, int... due) {
        for (int what = 0; what <= 3; what++) {
            expect.equal("token(" + token + ", " + what + ")", desk.token(token, what), due[what]);
        }
    }

    @Sentence(GOOD)
    static void goodJustBeforeItsEndAndNotAtIt(Expect expect) {
        expect.equal("at once", Scenes.served().token(1, 0), 1);
        expect.equal("just before", Scenes.later(Scenes.served(), 29).token(1, 0), 1);
        expect.equal("at it", Scenes.later(Scenes.served(), 30).token(1, 0), 0);
        expect.equal("after it", Scenes.later(Scenes.served(), 31).token(1, 0), 0);
    }

    @Sentence(GOOD)
    static void notGoodWhenDropped(Expect expect) {
        GrantDesk desk = Scenes.served();
        desk.drop(0, 1);
        expect.equal("dropped", desk.token(1, 0), 0);
    }

    @Sentence(CLIENT)
    static void everyClient(Expect expect) {
        GrantDesk desk = Scenes.generous();
        for (int client = 0; client <= 2; client++) {
            int token = desk.redeem(client, desk.ask(1, 0, 1, -1, 0), 0, 0);
            expect.equal("its client", desk.token(token, 1), client);
        }
    }

    @Sentence(END)
    static void thirtyTicksAfterItWasGiven(Expect expect) {
        GrantDesk desk = Scenes.later(Scenes.served(), 9);
        desk.redeem(0, 3, 4, 0);
        expect.equal("given at 0", desk.token(1, 2), 30);
        expect.equal("given at 9", desk.token(2, 2), 39);
    }

    @Sentence(RESOURCES)
    static void oneToTwelveResources(Expect expect) {
        GrantDesk desk = new GrantDesk();
        desk.key(0);
        int token = 0;
        for (int r = 0; r < 12; r++) {
            desk.register(1, 15);
            desk.rule(1, r, 15, Texts.EVER);
            token = desk.redeem(0, desk.ask(1, r, 1 + r, -1, 0), 0, token);
            expect.equal("resources", desk.token(token, 3), r + 1);
        }
    }

    @Sentence(RESOURCES)
    static void notThoseThatNothingIsGrantedOf(Expect expect) {
        GrantDesk desk = Scenes.served();
        expect.equal("for two", desk.redeem(0, desk.ask(1, 0, 4, 2, 15), 0, 0), 2);
        expect.equal("of one", desk.token(2, 3), 1);
    }

    @Sentence(AS_GIVEN)
    static void whateverBecameOfTheResource(Expect expect) {
        GrantDesk desk = Scenes.served();
        desk.rescope(1, 0, 1);
        due(expect, desk, 1, 1, 0, 30, 1);
        desk.clear(1, 0);
        due(expect, desk, 1, 1, 0, 30, 1);
        desk.remove(1, 0);
        due(expect, desk, 1, 1, 0, 30, 1);
    }

    @Sentence(AS_GIVEN)
    static void whateverBecameOfTheToken(Expect expect) {
        GrantDesk desk = Scenes.served();
        desk.drop(0, 1);
        due(expect, desk, 1, 0, 0, 30, 1);
        due(expect, Scenes.later(Scenes.served(), 100), 1, 0, 0, 30, 1);
    }

    @Sentence(AS_GIVEN)
    static void changesNothing(Expect expect) {
        expect.unchanged("token", Scenes::served, desk -> {
            for (int what = -1; what <= 4; what++) {
                desk.token(1, what);
                desk.token(2, what);
            }
        });
    }

    @Sentence(NONE)
    static void thereIsNoSuchToken(Expect expect) {
        for (int token : Edges.and(Edges.outside(1, 1), 60, 61)) {
            due(expect, Scenes.served(), token, -1, -1, -1, -1);
            due(expect, new GrantDesk(), token, -1, -1, -1, -1);
        }
    }

    @Sentence(NONE)
    static void whatOutside(Expect expect) {
        for (int what : Edges.outside(0, 3)) {
            expect.equal("what " + what, Scenes.served().token(1, what), -1);
            expect.equal("what " + what + " of none", Scenes.served().token(2, what), -1);
        }
    }
}
