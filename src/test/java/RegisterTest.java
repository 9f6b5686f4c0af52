@Section("Promise 4: register")
public final class RegisterTest {
    private static final String REGISTERED = "A new resource of the key's owner: its number.";
    private static final String NO_SUCH = "NoSuchElementException: KEYLESS.";
    private static final String ARGUMENT = "IllegalArgumentException: scopes not 1 .. 15.";
    private static final String STATE = "IllegalStateException: there were 12 resources.";

    public static void main(String[] args) {
        Tests.run(RegisterTest.class);
    }

    private static GrantDesk withResources(int count) {
        GrantDesk desk = new GrantDesk();
        desk.key(0);
        for (int r = 0; r < count; r++) {
            desk.register(1, 1 + r);
        }
        return desk;
    }

    @Sentence(REGISTERED)
    static void numbersRiseByOne(Expect expect) {
        GrantDesk desk = Scenes.owners();
        expect.equal("the next", desk.register(1, 1), 4);
        expect.equal("of another owner", desk.register(2, 15), 5);
    }

    @Sentence(REGISTERED)
    static void ofTheKeysOwner(Expect expect) {
        GrantDesk desk = new GrantDesk();
        desk.key(2);
        desk.key(0);
        desk.register(1, 9);
        desk.register(2, 6);
        expect.equal("the first's owner", desk.resource(0, 0), 2);
        expect.equal("the second's owner", desk.resource(1, 0), 0);
        expect.equal("the first's scopes", desk.resource(0, 1), 9);
        expect.equal("the second's scopes", desk.resource(1, 1), 6);
        expect.equal("no rules", desk.resource(1, 2), 0);
    }

    @Sentence(NO_SUCH)
    static void keyless(Expect expect) {
        expect.keyless((desk, key) -> desk.register(key, 1));
    }

    @Sentence(ARGUMENT)
    static void leastAndGreatestScopes(Expect expect) {
        GrantDesk desk = Scenes.owners();
        expect.equal("the least", desk.resource(desk.register(1, 1), 1), 1);
        expect.equal("the greatest", desk.resource(desk.register(1, 15), 1), 15);
    }

    @Sentence(ARGUMENT)
    static void scopesOutside(Expect expect) {
        expect.refusedFor(Edges.outside(1, 15), "scopes", Expect.ARGUMENT, Scenes::served,
                (desk, scopes) -> desk.register(1, scopes));
    }

    @Sentence(STATE)
    static void thereIsATwelfth(Expect expect) {
        GrantDesk desk = withResources(11);
        expect.equal("the twelfth", desk.register(1, 3), 11);
        expect.equal("can be ruled", desk.rule(1, 11, 2, Texts.EVER), 1);
        expect.equal("can be asked for", desk.ask(1, 11, 2, 0, 1), 1);
        expect.equal("can be granted", desk.redeem(0, 1, 0, 0), 1);
        expect.equal("can be used", desk.introspect(1, 1, 11), 2);
    }

    @Sentence(STATE)
    static void thereIsNoThirteenth(Expect expect) {
        expect.refusedWhole("the 13th", Expect.STATE, () -> withResources(12), desk -> desk.register(1, 1));
        GrantDesk desk = withResources(12);
        expect.refused("the 13th", Expect.STATE, () -> desk.register(1, 1));
        expect.equal("it is none", desk.resource(12, 0), -1);
    }

    @Sentence(STATE)
    static void thoseTakenOutWereThere(Expect expect) {
        GrantDesk desk = withResources(12);
        for (int r = 0; r < 12; r++) {
            desk.remove(1, r);
            expect.refused("a 13th", Expect.STATE, () -> desk.register(1, 1));
        }
    }

    @Sentence(NO_SUCH + " " + ARGUMENT + " " + STATE)
    static void theFirstThatIsDue(Expect expect) {
        new Mixture(expect, (desk, a) -> desk.register(a[0], a[1]), 1, 1)
                .lists(Expect.NO_SUCH).wrong(0, 0, 4)
                .lists(Expect.ARGUMENT).wrong(1, 0, 16)
                .lists(Expect.STATE)
                .in(Scenes::served)
                .inRefusing(() -> withResources(12), Expect.STATE);
    }
}
