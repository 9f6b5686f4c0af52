@Section("Promise 13: drop")
public final class DropTest {
    private static final String DROPPED = "The token is dropped: true;";
    private static final String FALSE = "false when it is no GOOD one of that client.";

    public static void main(String[] args) {
        Tests.run(DropTest.class);
    }

    private static void isFalse(Expect expect, int client, int token) {
        String what = "drop(" + client + ", " + token + ")";
        expect.unchanged(what, Scenes::served, desk -> expect.equal(what, desk.drop(client, token), false));
    }

    @Sentence(DROPPED)
    static void itIsGoodNoMore(Expect expect) {
        GrantDesk desk = Scenes.served();
        desk.redeem(1, 3, 4, 0);
        expect.equal("drop", desk.drop(0, 1), true);
        expect.equal("good", desk.token(1, 0), 0);
        expect.equal("its scopes", desk.introspect(1, 1, 0), 0);
        expect.equal("another stays", desk.token(2, 0), 1);
        expect.equal("and is dropped by its client", desk.drop(1, 2), true);
    }

    @Sentence(DROPPED)
    static void theLastOfSixty(Expect expect) {
        GrantDesk desk = Scenes.crowded(60, Texts.ever());
        for (int ticket = 1; ticket <= 60; ticket++) {
            desk.redeem(2, ticket, 0, 0);
        }
        expect.equal("there is no 61st", desk.drop(2, 61), false);
        expect.equal("the 60th", desk.drop(2, 60), true);
        expect.equal("the 59th stays", desk.token(59, 0), 1);
    }

    @Sentence(FALSE)
    static void thereIsNoSuchToken(Expect expect) {
        for (int token : Edges.and(Edges.outside(1, 1), 60, 61)) {
            isFalse(expect, 0, token);
        }
        expect.equal("before there is a token", new GrantDesk().drop(0, 1), false);
    }

    @Sentence(FALSE)
    static void anotherClientsToken(Expect expect) {
        isFalse(expect, 1, 1);
        isFalse(expect, 2, 1);
    }

    @Sentence(FALSE)
    static void noSuchClient(Expect expect) {
        for (int client : Edges.outside(0, 2)) {
            isFalse(expect, client, 1);
        }
    }

    @Sentence(FALSE)
    static void droppedBefore(Expect expect) {
        GrantDesk desk = Scenes.served();
        desk.drop(0, 1);
        expect.equal("again", desk.drop(0, 1), false);
    }

    @Sentence(FALSE)
    static void justBeforeAndAtItsEnd(Expect expect) {
        expect.equal("just before", Scenes.later(Scenes.served(), 29).drop(0, 1), true);
        expect.equal("at it", Scenes.later(Scenes.served(), 30).drop(0, 1), false);
    }
}
