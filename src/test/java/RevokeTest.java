@Section("Promise 3: revoke")
public final class RevokeTest {
    private static final String REVOKED = "The key is revoked: true;";
    private static final String KEYLESS = "false when it is KEYLESS.";

    public static void main(String[] args) {
        Tests.run(RevokeTest.class);
    }

    @Sentence(REVOKED)
    static void speaksNoMore(Expect expect) {
        GrantDesk desk = Scenes.served();
        expect.equal("revoke", desk.revoke(1), true);
        expect.refused("register", Expect.NO_SUCH, () -> desk.register(1, 1));
        expect.refused("remove", Expect.NO_SUCH, () -> desk.remove(1, 0));
        expect.refused("introspect", Expect.NO_SUCH, () -> desk.introspect(1, 1, 0));
    }

    @Sentence(REVOKED)
    static void theFirstAndTheLastOfTwelve(Expect expect) {
        GrantDesk desk = new GrantDesk();
        for (int key = 1; key <= 12; key++) {
            desk.key(0);
        }
        expect.equal("the last", desk.revoke(12), true);
        expect.equal("the first", desk.revoke(1), true);
        expect.equal("the second speaks on", desk.register(2, 1), 0);
        expect.equal("the eleventh speaks on", desk.remove(11, 0), 0);
    }

    @Sentence(REVOKED)
    static void theRestStays(Expect expect) {
        GrantDesk desk = Scenes.served();
        desk.revoke(1);
        expect.equal("the resource", desk.resource(0, 1), 7);
        expect.equal("its rules", desk.resource(0, 2), 2);
        expect.equal("the ticket", desk.ticket(1, 0), 1);
        expect.equal("the token", desk.token(1, 0), 1);
        expect.equal("another key", desk.register(2, 1), 4);
        expect.equal("a new key of the owner", desk.key(0), 4);
        expect.equal("speaks for what is there", desk.introspect(4, 1, 0), 4);
        expect.equal("the ticket can be redeemed", desk.redeem(0, 3, 4, 0), 2);
    }

    @Sentence(KEYLESS)
    static void falseForNoKey(Expect expect) {
        for (int key : Edges.outside(1, 3)) {
            expect.unchanged("revoke " + key, Scenes::served,
                    desk -> expect.equal("revoke " + key, desk.revoke(key), false));
        }
        expect.equal("before there is a key", new GrantDesk().revoke(1), false);
    }

    @Sentence(KEYLESS)
    static void falseForOneBehindTheTwelfth(Expect expect) {
        GrantDesk desk = new GrantDesk();
        for (int key = 1; key <= 12; key++) {
            desk.key(0);
        }
        expect.equal("revoke 13", desk.revoke(13), false);
        expect.equal("revoke 0", desk.revoke(0), false);
    }

    @Sentence(KEYLESS)
    static void falseForARevokedOne(Expect expect) {
        expect.unchanged("revoke 3", Scenes::served, desk -> expect.equal("revoke 3", desk.revoke(3), false));
        GrantDesk desk = Scenes.served();
        expect.equal("once", desk.revoke(1), true);
        expect.equal("twice", desk.revoke(1), false);
        desk.key(0);
        expect.equal("with a new key of the owner", desk.revoke(1), false);
    }
}
